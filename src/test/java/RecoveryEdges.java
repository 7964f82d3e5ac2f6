/** The edges of chapter 6, and of promises 24, 25 and 36: recoveries, salvage and the club. */
final class RecoveryEdges {
    private final Sentences said;

    RecoveryEdges(Sentences said) {
        this.said = said;
    }

    void run() {
        allRecoveries();
        restOfARecovery();
        atEachTime();
        salvageLeftAtMost();
        putOffByTheClub();
        forgiven();
        asAYearBegins();
        behindWhatIsDue();
        lastOfTheYears();
        timesAtWar();
        owedStays();
        recoveryOrNot();
        forgivenIsNoRecovery();
        runPromises();
    }

    private void runPromises() {
        salvageAtMost();
        howMuchSalvage();
        salvageOfNone();
        salvageBeside();
        whatCanNotBeSalvaged();
        howManyPutOff();
        clubNowhere();
        clubBeside();
        whose();
        partOfTheUnclaimed();
        partOfNone();
        partBeside();
    }

    private void allRecoveries() {
        Check check = said.chapter(6,
            "RECOVERED of a SHIPMENT that is CLAIMED: all RECOVERIES together (LEFT is less by each).");
        Exportcover x = Office.claimed();
        check.due("RECOVERED at first", x.ofShipment(0, 14), 0);
        x.salvage(0, 100);
        dueRecovered(check, x, 100, 900);
        x.earn(0, 50);
        x.pay(0, 50);
        dueRecovered(check, x, 150, 850);
        x.club(0, 100, 1);
        dueRecovered(check, x, 150, 850);
        x.pass(150);
        dueRecovered(check, x, 1000, 0);
    }

    private static void dueRecovered(Check check, Exportcover x, int recovered, int left) {
        check.due("RECOVERED", x.ofShipment(0, 14), recovered);
        check.due("LEFT", x.ofShipment(0, 5), left);
    }

    /** With the 16th cent the OFFICE gets its 7th one, and the RIVAL its third one. */
    private void restOfARecovery() {
        Check check = said.chapter(6, "With each one the RIVAL and the OFFICE are paid up to what RECOVERED * PART / "
            + "LOSS tells (of each, with RECOVERED as it is then), and the EXPORTER gets the rest of that RECOVERY (if "
            + "that is below 0, it pays that).");
        Exportcover x = Office.claimed();
        x.salvage(0, 15);
        int office = x.books(7);
        int rival = x.books(9);
        int exporter = x.ofExporter(0, 0);
        check.due("EXPORTER had", x.part(0, 0, true), 7);
        x.salvage(0, 1);
        check.due("the OFFICE", x.books(7) - office, 1);
        check.due("the RIVAL", x.books(9) - rival, 1);
        check.due("the EXPORTER, who pays", x.ofExporter(0, 0) - exporter, -1);
        check.due("EXPORTER had", x.part(0, 0, true), 6);
        Exportcover none = Office.claimed();
        exporter = none.ofExporter(0, 0);
        none.salvage(0, 2);
        check.due("two cents for the EXPORTER alone", none.ofExporter(0, 0) - exporter, 2);
        Exportcover bare = Office.claimed(95, -1, 0, 1000, 1000);
        int before = bare.books(8) + bare.books(9);
        bare.salvage(0, 999);
        check.due("without a RIVAL", bare.books(8) + bare.books(9), before);
        check.due("OFFICE had", bare.part(0, 1, true), 949);
        check.due("EXPORTER had", bare.part(0, 0, true), 50);
    }

    /** By one SALVAGE or by many: what was had is the same. */
    private void atEachTime() {
        Check check = said.chapter(6,
            "(So at each time the RIVAL has had RECOVERED * PART / LOSS, the OFFICE likewise, the EXPORTER the rest.)");
        int[] steps = {1, 2, 3, 7, 10, 33, 99, 250, 999, 1000};
        for (int step : steps) {
            Exportcover x = Office.claimed();
            int times = Math.min(30, (999 + step) / step);
            for (int i = 0; i < times; i++) {
                x.salvage(0, step);
                int recovered = Math.min(1000, (i + 1) * step);
                int office = recovered * 441 / 1000;
                int rival = recovered * 189 / 1000;
                check.due("OFFICE had", x.part(0, 1, true), office);
                check.due("RIVAL had", x.part(0, 2, true), rival);
                check.due("EXPORTER had", x.part(0, 0, true), recovered - office - rival);
            }
        }
    }

    private void salvageLeftAtMost() {
        Check check = said.chapter(6, "SALVAGE: a RECOVERY that comes from the WORLD, by a call, for one that is "
            + "CLAIMED and not VOID (LEFT at most).");
        Exportcover x = Office.claimed();
        check.due("salvage of more than is LEFT", x.salvage(0, 1001), 1000);
        check.due("the WORLD", x.books(10), -1000);
        check.due("salvage, nothing LEFT", x.salvage(0, 1), 0);
        check.due("the WORLD", x.books(10), -1000);
        Exportcover open = Office.reported(1000, 180);
        check.noState(open, "salvage of one not CLAIMED", () -> open.salvage(0, 1));
        Exportcover fake = Office.claimedFake();
        check.due("salvage of a FAKE one", fake.salvage(0, 1), 1);
        fake.inspect(0);
        check.noState(fake, "salvage of a VOID one", () -> fake.salvage(0, 1));
    }

    private void putOffByTheClub() {
        Check check = said.chapter(6, "The CLUB puts off debts of a LAND: each SHIPMENT to a BUYER there that is "
            + "neither FAKE nor VOID nor PUT OFF, with LEFT above 0 and DUE on that DAY or earlier, is PUT OFF");
        Exportcover x = Office.plain();
        x.land(0, 0);
        x.buyer(1, 0);
        x.buyer(0, 0);
        x.ship(0, 0, 10, 30, false);
        x.ship(0, 0, 10, 31, false);
        x.ship(0, 0, 10, 32, false);
        x.ship(0, 0, 10, 30, true);
        x.ship(0, 0, 10, 30, true);
        x.ship(0, 1, 10, 30, false);
        x.ship(0, 2, 10, 30, false);
        x.earn(2, 10);
        x.inspect(4);
        x.pass(31);
        check.due("club", x.club(0, 50, 2), 2);
        int[] due = {8, 8, 0, 32, 48, 0, 0};
        for (int i = 0; i < due.length; i++) {
            check.due("the set of " + i, x.ofShipment(i, 11), due[i]);
        }
        check.due("club again", x.club(0, 50, 2), 0);
        check.due("OWED stays", x.ofShipment(0, 16), 5);
        x.pass(1);
        check.due("club, one more DUE", x.club(0, 50, 2), 1);
        Exportcover cent = Office.due(10);
        cent.earn(0, 10);
        cent.pay(0, 9);
        check.due("club of a cent", cent.club(0, 100, 2), 1);
        check.due("club of one CLAIMED", Office.claimed().club(0, 100, 2), 1);
    }

    private void forgiven() {
        Check check = said.chapter(6, "of LEFT what is more than OWED, which is LEFT * (so many hundredths) / 100, is "
            + "FORGIVEN (LEFT is OWED then).");
        int[][] rows = {{1000, 100, 1000}, {1000, 10, 100}, {999, 99, 989}, {999, 10, 99}, {9, 10, 0}, {10, 10, 1},
            {1, 99, 0}, {1, 100, 1}, {99999, 100, 99999}, {99999, 99, 98999}};
        for (int[] each : rows) {
            Exportcover x = Office.due(each[0]);
            check.due("club", x.club(0, each[1], 1), 1);
            check.due("OWED of " + each[0], x.ofShipment(0, 16), each[2]);
            check.due("LEFT of " + each[0], x.ofShipment(0, 5), each[2]);
            check.due("FORGIVEN of " + each[0], x.ofShipment(0, 15), each[0] - each[2]);
            check.due("PUT OFF", x.ofShipment(0, 11), 8);
        }
    }

    private void asAYearBegins() {
        Check check = said.chapter(6, "As a YEAR begins, behind what is DUE on that DAY, SHIPMENT by SHIPMENT that is "
            + "PUT OFF and not VOID, with LEFT above 0, whose LAND is not at WAR: OWED / YEARS comes from the WORLD");
        Exportcover x = Office.due(1000);
        x.club(0, 100, 3);
        x.broke(0);
        x.stop(0, true);
        int exporter = x.ofExporter(0, 0);
        x.pass(329);
        check.due("LEFT on the last DAY of the YEAR", x.ofShipment(0, 5), 1000);
        x.pass(1);
        check.due("LEFT as the YEAR begins", x.ofShipment(0, 5), 667);
        check.due("the WORLD", x.books(10), -333);
        check.due("the EXPORTER", x.ofExporter(0, 0) - exporter, 333);
        x.pass(1);
        check.due("LEFT on the second DAY of it", x.ofShipment(0, 5), 667);
        Exportcover first = Office.plain();
        first.ship(0, 0, 1000, 30, false);
        first.pass(360);
        first.club(0, 100, 2);
        first.pass(359);
        check.due("LEFT, PUT OFF on the first DAY of a YEAR", first.ofShipment(0, 5), 1000);
        first.pass(1);
        check.due("LEFT a YEAR later", first.ofShipment(0, 5), 500);
        Exportcover last = Office.plain();
        last.ship(0, 0, 1000, 30, false);
        last.pass(359);
        last.club(0, 100, 2);
        last.pass(1);
        check.due("LEFT, PUT OFF on the last DAY of a YEAR", last.ofShipment(0, 5), 500);
    }

    private void behindWhatIsDue() {
        Check check = said.chapter(6, "behind what is DUE on that DAY");
        Exportcover x = Office.plain();
        x.ship(0, 0, 100, 30, false);
        x.ship(0, 0, 70, 360, false);
        x.pass(30);
        x.club(0, 100, 1);
        x.earn(0, 70);
        x.pass(330);
        check.due("LEFT of what is DUE", x.ofShipment(1, 5), 0);
        check.due("LEFT of what is PUT OFF", x.ofShipment(0, 5), 0);
        check.due("CHEST", x.ofBuyer(0, 3), 0);
        check.due("the WORLD", x.books(10), -170);
    }

    private void lastOfTheYears() {
        Check check = said.chapter(6, "the YEARS-th time all that is LEFT (LEFT at most each time;");
        Exportcover one = Office.due(999);
        one.club(0, 100, 1);
        one.pass(330);
        check.due("LEFT behind the only time", one.ofShipment(0, 5), 0);
        Exportcover ten = Office.due(999);
        ten.club(0, 100, 10);
        ten.pass(330);
        for (int time = 1; time < 10; time++) {
            check.due("LEFT behind time " + time, ten.ofShipment(0, 5), 999 - 99 * time);
            ten.pass(360);
        }
        check.due("LEFT behind the last time", ten.ofShipment(0, 5), 0);
        check.due("the WORLD", ten.books(10), -999);
        ten.pass(360);
        check.due("the WORLD a YEAR later", ten.books(10), -999);
        Exportcover salvaged = Office.claimed();
        salvaged.club(0, 90, 3);
        salvaged.salvage(0, 601);
        salvaged.pass(150);
        check.due("LEFT, less than a third of what is OWED", salvaged.ofShipment(0, 5), 0);
        check.due("the WORLD", salvaged.books(10), -900);
        Exportcover equal = Office.claimed();
        equal.club(0, 90, 3);
        equal.salvage(0, 599);
        equal.pass(150);
        check.due("LEFT, more than a third of what is OWED", equal.ofShipment(0, 5), 1);
    }

    private void timesAtWar() {
        Check check = said.chapter(6, "a time at WAR is none, one at which that is 0 is one;");
        Exportcover war = Office.due(100);
        war.club(0, 100, 2);
        war.war(0, true);
        war.pass(690);
        check.due("LEFT behind two YEARS at WAR", war.ofShipment(0, 5), 100);
        war.war(0, false);
        war.pass(360);
        check.due("LEFT behind the first time", war.ofShipment(0, 5), 50);
        war.war(0, true);
        war.pass(359);
        war.war(0, false);
        war.pass(1);
        check.due("LEFT behind the second time", war.ofShipment(0, 5), 0);
        Exportcover little = Office.due(3);
        little.club(0, 100, 4);
        little.pass(690);
        little.pass(360);
        check.due("LEFT behind three times of 0", little.ofShipment(0, 5), 3);
        little.pass(360);
        check.due("LEFT behind the fourth time", little.ofShipment(0, 5), 0);
    }

    private void owedStays() {
        Check check = said.chapter(6, "OWED stays so).");
        Exportcover x = Office.due(1000);
        x.club(0, 50, 2);
        x.pass(330);
        check.due("OWED behind the first time", x.ofShipment(0, 16), 500);
        check.due("LEFT", x.ofShipment(0, 5), 250);
        x.pass(360);
        check.due("OWED behind the last time", x.ofShipment(0, 16), 500);
        check.due("FORGIVEN", x.ofShipment(0, 15), 500);
        check.due("LEFT", x.ofShipment(0, 5), 0);
    }

    private void recoveryOrNot() {
        Check check = said.chapter(6, "Of one that is CLAIMED that is a RECOVERY, otherwise the EXPORTER gets it.");
        Exportcover claimed = Office.claimed();
        claimed.club(0, 100, 1);
        claimed.pass(150);
        check.due("RECOVERED", claimed.ofShipment(0, 14), 1000);
        check.due("RECOVERIES", claimed.books(13), 441);
        check.due("EXPORTER had", claimed.part(0, 0, true), 370);
        Exportcover open = Office.due(1000);
        int exporter = open.ofExporter(0, 0);
        open.club(0, 100, 1);
        open.pass(330);
        check.due("RECOVERED", open.ofShipment(0, 14), 0);
        check.due("RECOVERIES", open.books(13), 0);
        check.due("the EXPORTER", open.ofExporter(0, 0) - exporter, 1000);
    }

    private void forgivenIsNoRecovery() {
        Check check = said.chapter(6, "What is FORGIVEN is no RECOVERY.");
        Exportcover x = Office.claimed();
        int office = x.books(7);
        int exporter = x.ofExporter(0, 0);
        x.club(0, 10, 1);
        check.due("FORGIVEN", x.ofShipment(0, 15), 900);
        check.due("RECOVERED", x.ofShipment(0, 14), 0);
        check.due("RECOVERIES", x.books(13), 0);
        check.due("the OFFICE", x.books(7), office);
        check.due("the EXPORTER", x.ofExporter(0, 0), exporter);
        check.due("isSound()", x.isSound(), true);
    }

    private void salvageAtMost() {
        Check check = said.promise(24, "how much at most");
        Exportcover x = Office.claimed();
        check.due("salvage of 999 of 1000", x.salvage(0, 999), 999);
        check.due("LEFT", x.ofShipment(0, 5), 1);
    }

    private void howMuchSalvage() {
        Check check = said.promise(24, "Returns how much (LEFT at most).");
        Exportcover x = Office.claimed();
        check.due("salvage of a cent", x.salvage(0, 1), 1);
        check.due("salvage of all but one", x.salvage(0, 998), 998);
        check.due("salvage of more than is LEFT", x.salvage(0, 99999), 1);
        check.due("salvage, nothing LEFT", x.salvage(0, 99999), 0);
    }

    private void salvageOfNone() {
        Check check = said.promise(24, "Throws `IndexOutOfBoundsException` if there is no such SHIPMENT");
        Exportcover none = Office.plain();
        check.noIndexBeside(none, "salvage without a SHIPMENT", 0, shipment -> none.salvage(shipment, 1));
        Exportcover x = Office.claimed();
        check.noIndexBeside(x, "salvage", 1, shipment -> x.salvage(shipment, 1));
    }

    private void salvageBeside() {
        Check check = said.promise(24, "Throws `IllegalArgumentException` if amount is not 1 to 99999");
        Exportcover x = Office.claimed(95, 0, 60, 12000, 99999);
        check.noArgumentBeside(x, "salvage", 1, 99999, amount -> x.salvage(0, amount));
        check.due("salvage of 1", x.salvage(0, 1), 1);
        check.due("salvage of 99999", x.salvage(0, 99999), 99998);
    }

    private void whatCanNotBeSalvaged() {
        Check check = said.promise(24, "Throws `IllegalStateException` if it is not CLAIMED, or VOID");
        Exportcover x = Office.reported(10, 180);
        check.noState(x, "salvage of one that could be CLAIMED", () -> x.salvage(0, 1));
        x.claim(0);
        check.due("salvage of one CLAIMED", x.salvage(0, 1), 1);
        Exportcover putOff = Office.due(10);
        putOff.club(0, 100, 1);
        check.noState(putOff, "salvage of one PUT OFF, not CLAIMED", () -> putOff.salvage(0, 1));
        Exportcover both = Office.claimed();
        both.club(0, 100, 1);
        check.due("salvage of one PUT OFF and CLAIMED", both.salvage(0, 1), 1);
        Exportcover fake = Office.claimedFake();
        fake.inspect(0);
        check.noState(fake, "salvage of one CLAIMED and VOID", () -> fake.salvage(0, 1));
        Exportcover early = Office.plain();
        early.ship(0, 0, 10, 30, true);
        early.inspect(0);
        check.noState(early, "salvage of one VOID, not CLAIMED", () -> early.salvage(0, 1));
    }

    private void howManyPutOff() {
        Check check = said.promise(25, "Returns how many SHIPMENTS are PUT OFF by that.");
        Exportcover none = Office.plain();
        check.due("club without a SHIPMENT", none.club(0, 50, 2), 0);
        Exportcover x = Office.plain();
        for (int i = 0; i < 48; i++) {
            x.ship(0, 0, 1, 30, false);
        }
        x.pass(29);
        check.due("club a DAY early", x.club(0, 10, 1), 0);
        x.pass(1);
        check.due("club of all", x.club(0, 10, 1), 48);
        check.due("club again", x.club(0, 10, 1), 0);
        check.due("PUT OFF ones", x.books(16), 48);
    }

    private void clubNowhere() {
        Check check = said.promise(25, "Throws `IndexOutOfBoundsException` if there is no such LAND");
        Exportcover none = new Exportcover();
        check.noIndexBeside(none, "club without a LAND", 0, land -> none.club(land, 50, 2));
        Exportcover x = Office.due(10);
        check.noIndexBeside(x, "club", 1, land -> x.club(land, 50, 2));
        check.due("club of the one", x.club(0, 50, 2), 1);
    }

    private void clubBeside() {
        Check check = said.promise(25,
            "Throws `IllegalArgumentException` if hundredths is not 10 to 100, or years not 1 to 10");
        Exportcover x = Office.due(100);
        check.noArgumentBeside(x, "club, hundredths", 10, 100, hundredths -> x.club(0, hundredths, 1));
        check.noArgumentBeside(x, "club, YEARS", 1, 10, years -> x.club(0, 50, years));
        check.due("club(0, 10, 10)", x.club(0, 10, 10), 1);
        check.due("OWED", x.ofShipment(0, 16), 10);
        check.due("club(0, 100, 1)", Office.due(100).club(0, 100, 1), 1);
    }

    private void whose() {
        Check check = said.promise(36, "0 of the EXPORTER, 1 of the OFFICE, 2 of the RIVAL");
        Exportcover x = Office.claimed();
        int[] parts = {370, 441, 189};
        for (int whose = 0; whose < 3; whose++) {
            check.due("PART " + whose, x.part(0, whose, false), parts[whose]);
            check.due("had at first", x.part(0, whose, true), 0);
        }
        x.salvage(0, 1000);
        for (int whose = 0; whose < 3; whose++) {
            check.due("PART " + whose, x.part(0, whose, false), parts[whose]);
            check.due("had in the end", x.part(0, whose, true), parts[whose]);
        }
    }

    private void partOfTheUnclaimed() {
        Check check = said.promise(36, "Returns that (0, if it is not CLAIMED).");
        Exportcover x = Office.reported(1000, 180);
        x.earn(0, 10);
        x.pay(0, 10);
        for (int whose = 0; whose < 3; whose++) {
            check.due("PART of one not CLAIMED", x.part(0, whose, false), 0);
            check.due("had of one not CLAIMED", x.part(0, whose, true), 0);
        }
        Exportcover fake = Office.claimedFake();
        fake.salvage(0, 1000);
        fake.inspect(0);
        check.due("PART of one CLAIMED and VOID", fake.part(0, 2, false), 189);
        check.due("had of one CLAIMED and VOID", fake.part(0, 2, true), 189);
    }

    private void partOfNone() {
        Check check = said.promise(36, "Throws `IndexOutOfBoundsException` if there is no such SHIPMENT");
        Exportcover none = Office.plain();
        check.noIndexBeside(none, "part without a SHIPMENT", 0, shipment -> none.part(shipment, 0, true));
        Exportcover x = Office.claimed();
        check.noIndexBeside(x, "part", 1, shipment -> x.part(shipment, 0, false));
    }

    private void partBeside() {
        Check check = said.promise(36, "Throws `IllegalArgumentException` if whose is not 0 to 2");
        Exportcover x = Office.claimed();
        check.noArgumentBeside(x, "part", 0, 2, whose -> x.part(0, whose, false));
        check.noArgumentBeside(x, "had", 0, 2, whose -> x.part(0, whose, true));
        Exportcover open = Office.due(1);
        check.noArgumentBeside(open, "part of one not CLAIMED", 0, 2, whose -> open.part(0, whose, false));
    }
}
