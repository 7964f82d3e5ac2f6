import java.io.IOException;
import java.nio.charset.StandardCharsets;
import java.nio.file.Files;
import java.nio.file.Path;
import java.util.ArrayList;
import java.util.List;
import java.util.Map;
import java.util.TreeMap;
import java.util.regex.Matcher;
import java.util.regex.Pattern;

/**
 * The sentences of the document's Description and promises. Each test begins by quoting the one that it tries; in
 * the end each sentence is due to be quoted, but for those that are told to name no edge.
 */
final class Sentences {
    private static final Path DOCUMENT = Path.of("../shared/DOC.md");
    private static final Pattern CHAPTER = Pattern.compile("== (\\d)\\..*");
    private static final Pattern PROMISE = Pattern.compile("## Promise (\\d+):.*");
    private static final Pattern NUMBER = Pattern.compile("\\d+");

    /** A chapter of the Description, or a promise: its text, where its sentences end, and what was quoted of it. */
    private static final class Part {
        final StringBuilder text = new StringBuilder();
        final List<Integer> ends = new ArrayList<>();
        boolean[] isQuoted;

        /** A clause that a semicolon ends is taken for a sentence. */
        void add(String line) {
            for (String sentence : line.trim().split("(?<=[.;]|\\.\\))\\s+")) {
                text.append(sentence).append(' ');
                ends.add(text.length());
            }
        }
    }

    private final Check check;
    private final Map<String, Part> parts = new TreeMap<>();
    private String quoted;
    private int askedBefore;

    Sentences(Check check) throws IOException {
        this.check = check;
        read(Files.readString(DOCUMENT, StandardCharsets.UTF_8));
        for (Part each : parts.values()) {
            each.isQuoted = new boolean[each.text.length()];
        }
        check.due("what it is, the chapters 0 to 8 and 46 promises", parts.size(), 1 + 9 + 46);
    }

    private void read(String document) {
        Part part = null;
        for (String line : document.split("\n")) {
            Matcher promise = PROMISE.matcher(line);
            Matcher chapter = CHAPTER.matcher(line);
            if (line.equals("## What it is")) {
                part = begin("what it is");
            } else if (line.equals("## Description")) {
                part = begin("chapter 0");
            } else if (promise.matches()) {
                part = begin("promise " + promise.group(1));
            } else if (line.startsWith("## ")) {
                part = null;
            } else if (part != null && chapter.matches()) {
                part = begin("chapter " + chapter.group(1));
            } else if (part != null && isOfSentences(line)) {
                part.add(line);
            }
        }
    }

    private Part begin(String name) {
        Part part = new Part();
        parts.put(name, part);
        return part;
    }

    /** Signatures and captions are not, nor is what tells only what a parameter stands for. */
    private static boolean isOfSentences(String line) {
        boolean isParameter = line.startsWith("- ");
        boolean isNamingEdges = line.contains("NONE") || line.contains("at most") || NUMBER.matcher(line).find();
        return !line.isBlank() && !line.startsWith("`") && !line.startsWith("----") && (!isParameter || isNamingEdges);
    }

    Check whatItIs(String quote) {
        return begin("what it is", quote);
    }

    Check chapter(int number, String quote) {
        return begin("chapter " + number, quote);
    }

    Check promise(int number, String quote) {
        return begin("promise " + number, quote);
    }

    private Check begin(String name, String quote) {
        dueSomeAsked();
        quoted = name + ", " + quote;
        check.about(quoted);
        quote(name, quote);
        askedBefore = check.asked();
        return check;
    }

    private void quote(String name, String quote) {
        Part part = parts.get(name);
        int at = part == null ? -1 : part.text.indexOf(quote);
        check.due("the quote stands there", at >= 0, true);
        if (at < 0) {
            return;
        }
        check.due("the quote stands there once", part.text.lastIndexOf(quote), at);
        for (int i = at; i < at + quote.length(); i++) {
            part.isQuoted[i] = true;
        }
    }

    private void dueSomeAsked() {
        if (quoted != null) {
            check.due("the test asks something", check.asked() > askedBefore, true);
        }
    }

    /** These name no edge: other tests try them. */
    void nameNoEdge(String[][] plain) {
        for (String[] each : plain) {
            check.about("no edge in " + each[0]);
            quote(each[0], each[1]);
        }
    }

    /** Each sentence must be quoted, and each number in it. */
    void dueAllQuoted() {
        dueSomeAsked();
        for (Map.Entry<String, Part> each : parts.entrySet()) {
            check.about(each.getKey());
            dueAllQuoted(each.getValue());
        }
        check.about("all sentences");
    }

    private void dueAllQuoted(Part part) {
        int begin = 0;
        for (int end : part.ends) {
            String sentence = part.text.substring(begin, end - 1);
            int count = 0;
            for (int i = begin; i < end; i++) {
                count += part.isQuoted[i] ? 1 : 0;
            }
            check.due("quoted of \"" + sentence + '"', count > 0, true);
            Matcher number = NUMBER.matcher(sentence);
            while (count > 0 && number.find()) {
                boolean isQuoted = part.isQuoted[begin + number.start()];
                check.due("the " + number.group() + " quoted of \"" + sentence + '"', isQuoted, true);
            }
            begin = end;
        }
    }
}
