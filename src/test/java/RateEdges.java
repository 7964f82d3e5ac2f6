/** The edges of chapter 3 as to NOTICES, RATES and TERMS, and of promises 14 and 39. */
final class RateEdges {
    private final Sentences said;

    RateEdges(Sentences said) {
        this.said = said;
    }

    void run() {
        rateOfANotice();
        daysOfANotice();
        latestNotice();
        horizons();
        leastAndHighestRate();
        noticeBelow();
        longestTerms();
        longestWithNotice();
        onThisDay();
        noticeBefore();
        noticeNowhere();
        noticeBeside();
        rateOfALongTerm();
        rateNowhere();
        rateBeside();
    }

    private static Exportcover ofClass(int grade) {
        Exportcover x = new Exportcover();
        x.land(grade, 0);
        return x;
    }

    private void rateOfANotice() {
        Check check = said.chapter(3,
            "A NOTICE can be told for a LAND: that a rival breaks the terms, with a RATE (1 to 999);");
        Exportcover x = ofClass(7);
        x.notice(0, 1);
        check.due("the least RATE", x.rate(0, 5, 3600), 1);
        x.notice(0, 999);
        check.due("the highest RATE told", x.ofLand(0, 7), 999);
        check.noArgument(x, "notice of 0", () -> x.notice(0, 0));
        check.noArgument(x, "notice of 1000", () -> x.notice(0, 1000));
    }

    private void daysOfANotice() {
        Check check = said.chapter(3, "it holds on that DAY and 89 further ones");
        Exportcover x = ofClass(3);
        x.pass(5);
        x.notice(0, 7);
        check.due("NOTICE on that DAY", x.ofLand(0, 7), 7);
        x.pass(1);
        check.due("NOTICE on the next DAY", x.ofLand(0, 7), 7);
        x.pass(88);
        check.due("NOTICE on the 89th further one", x.ofLand(0, 7), 7);
        check.due("RATE on it", x.rate(0, 0, 30), 7);
        x.pass(1);
        check.due("NOTICE on the 90th further one", x.ofLand(0, 7), -1);
        check.due("RATE on it", x.rate(0, 0, 30), 39);
    }

    private void latestNotice() {
        Check check = said.chapter(3, "(the latest one counts)");
        Exportcover x = ofClass(3);
        x.notice(0, 7);
        x.notice(0, 20);
        check.due("the latest one of a DAY", x.rate(0, 0, 30), 20);
        x.pass(89);
        x.notice(0, 999);
        check.due("RATE with one above it", x.rate(0, 0, 30), 39);
        x.pass(89);
        check.due("the latest one holds still", x.ofLand(0, 7), 999);
        x.pass(1);
        check.due("none holds any more", x.ofLand(0, 7), -1);
    }

    private void horizons() {
        Check check = said.chapter(3, "HORIZON of a TERM (30 to 3600 DAYS) is (TERM + 179) / 180.");
        Exportcover x = ofClass(0);
        int[][] terms = {{30, 1}, {179, 1}, {180, 1}, {181, 2}, {360, 2}, {361, 3}, {3420, 19}, {3421, 20}, {3600, 20}};
        for (int[] each : terms) {
            check.due("RATE for " + each[0], x.rate(0, 0, each[0]), 8 + each[1]);
        }
        check.noArgument(x, "a TERM of 29", () -> x.rate(0, 0, 29));
        check.noArgument(x, "a TERM of 3601", () -> x.rate(0, 0, 3601));
    }

    private void leastAndHighestRate() {
        Check check = said.chapter(3, "RATE (in 10000 parts) of a LAND, a BUYER's GRADE and a TERM: 8 + 3 * CLASS * "
            + "CLASS + (CLASS + 1) * HORIZON + 4 * GRADE;");
        check.due("the least RATE", ofClass(0).rate(0, 0, 30), 9);
        check.due("the highest RATE", ofClass(7).rate(0, 5, 3600), 8 + 147 + 160 + 20);
        check.due("RATE of CLASS 7", ofClass(7).rate(0, 0, 30), 8 + 147 + 8);
        check.due("RATE of GRADE 5", ofClass(0).rate(0, 5, 30), 8 + 1 + 20);
        check.due("RATE of 3600 DAYS", ofClass(0).rate(0, 0, 3600), 8 + 20);
    }

    private void noticeBelow() {
        Check check = said.chapter(3, "if a NOTICE holds and its RATE is less, it is that one.");
        int own = 47;
        Exportcover x = ofClass(3);
        check.due("RATE without", x.rate(0, 1, 360), own);
        for (int told = own - 1; told <= own + 1; told++) {
            x.notice(0, told);
            check.due("RATE with a NOTICE of " + told, x.rate(0, 1, 360), Math.min(told, own));
        }
    }

    private void longestTerms() {
        Check check = said.chapter(3,
            "The LONGEST TERM is 3600 for a CLASS of 2 or less, 1800 for 3 to 5, 360 for 6 and 7;");
        int[] due = {3600, 3600, 3600, 1800, 1800, 1800, 360, 360};
        for (int grade = 0; grade <= 7; grade++) {
            check.due("LONGEST of CLASS " + grade, ofClass(grade).ofLand(0, 8), due[grade]);
        }
    }

    private void longestWithNotice() {
        Check check = said.chapter(3, "if a NOTICE holds, 3600.");
        for (int grade = 0; grade <= 7; grade++) {
            Exportcover x = ofClass(grade);
            int own = x.ofLand(0, 8);
            x.notice(0, 999);
            check.due("LONGEST with a NOTICE", x.ofLand(0, 8), 3600);
            x.pass(89);
            check.due("LONGEST on its last DAY", x.ofLand(0, 8), 3600);
            x.pass(1);
            check.due("LONGEST behind it", x.ofLand(0, 8), own);
        }
    }

    private void onThisDay() {
        Check check = said.promise(14, "Tells a NOTICE, on this DAY.");
        Exportcover x = ofClass(3);
        Office.passTo(x, 7111);
        x.notice(0, 5);
        x.pass(89);
        check.due("NOTICE on DAY 7200", x.ofLand(0, 7), 5);
        check.due("notice on the last DAY", x.notice(0, 6), 5);
        check.due("NOTICE on the last DAY", x.ofLand(0, 7), 6);
        Exportcover y = ofClass(3);
        y.notice(0, 5);
        check.due("NOTICE on DAY 0", y.ofLand(0, 7), 5);
    }

    private void noticeBefore() {
        Check check = said.promise(14, "Returns that of the NOTICE before, if it holds still, otherwise NONE.");
        Exportcover x = ofClass(3);
        x.land(3, 0);
        check.due("the first notice", x.notice(0, 10), -1);
        check.due("notice on the same DAY", x.notice(0, 11), 10);
        x.pass(89);
        check.due("notice on the last DAY of that", x.notice(0, 12), 11);
        x.pass(90);
        check.due("notice behind that", x.notice(0, 13), -1);
        check.due("the first notice of another LAND", x.notice(1, 14), -1);
    }

    private void noticeNowhere() {
        Check check = said.promise(14, "Throws `IndexOutOfBoundsException` if there is no such LAND");
        Exportcover none = new Exportcover();
        check.noIndexBeside(none, "notice without a LAND", 0, land -> none.notice(land, 1));
        Exportcover x = ofClass(3);
        check.noIndexBeside(x, "notice", 1, land -> x.notice(land, 1));
        check.due("notice of the one", x.notice(0, 1), -1);
    }

    private void noticeBeside() {
        Check check = said.promise(14, "Throws `IllegalArgumentException` if rate is not 1 to 999");
        Exportcover x = ofClass(3);
        check.noArgumentBeside(x, "notice", 1, 999, rate -> x.notice(0, rate));
        check.due("notice of 1", x.notice(0, 1), -1);
        check.due("notice of 999", x.notice(0, 999), 1);
        check.due("NOTICE", x.ofLand(0, 7), 999);
    }

    private void rateOfALongTerm() {
        Check check = said.promise(39, "Returns RATE.");
        Exportcover x = ofClass(7);
        check.due("RATE of the LONGEST TERM", x.rate(0, 0, 360), 8 + 147 + 16);
        check.due("RATE of a TERM that is longer", x.rate(0, 0, 361), 8 + 147 + 24);
        x.close(0, true);
        x.war(0, true);
        check.due("RATE of a LAND CLOSED and at WAR", x.rate(0, 0, 360), 8 + 147 + 16);
    }

    private void rateNowhere() {
        Check check = said.promise(39, "Throws `IndexOutOfBoundsException` if there is no such LAND");
        Exportcover none = new Exportcover();
        check.noIndexBeside(none, "rate without a LAND", 0, land -> none.rate(land, 0, 30));
        Exportcover x = ofClass(0);
        check.noIndexBeside(x, "rate", 1, land -> x.rate(land, 0, 30));
        check.due("rate of the one", x.rate(0, 0, 30), 9);
    }

    private void rateBeside() {
        Check check = said.promise(39,
            "Throws `IllegalArgumentException` if grade is not 0 to 5, or term not 30 to 3600");
        Exportcover x = ofClass(0);
        check.noArgumentBeside(x, "rate, GRADE", 0, 5, grade -> x.rate(0, grade, 30));
        check.noArgumentBeside(x, "rate, TERM", 30, 3600, term -> x.rate(0, 0, term));
        check.due("rate(0, 0, 3600)", x.rate(0, 0, 3600), 28);
        check.due("rate(0, 5, 30)", x.rate(0, 5, 30), 29);
    }
}
