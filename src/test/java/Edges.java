import java.io.IOException;
import java.nio.file.Files;
import java.nio.file.Path;
import java.util.ArrayList;
import java.util.List;
import java.util.regex.Matcher;
import java.util.regex.Pattern;

/**
 * The document's sentences, and what was tried of each: every check stands under a sentence, every sentence that is
 * named must stand in the document, and at the end no word of the terms and the promises may be left untried.
 */
final class Edges {
    interface Call {
        int on(DrawerGloves x);
    }

    static final int TERMS = 0;
    private static final int PROMISES = 43;
    private static final int FINDING = -3;
    private static final String[] TOLD = {"digest()", "asked()", "upper()", "lower()", "finding()",
        "findings(1)", "findings(2)", "findings(3)", "findings(4)", "findings(5)"};
    private static final int FINDING_AT = 4;

    private final Checks checks = new Checks("EdgesTest");
    private final String[] texts = new String[PROMISES + 1];
    private final boolean[][] tried = new boolean[PROMISES + 1][];
    private String heads = "";
    private String sentence = "";
    private int checksOfSentence = 1;

    Edges() throws IOException {
        String document = Files.readString(Path.of("../shared/DOC.md"));
        int terms = document.indexOf("## Terms");
        int end = document.indexOf("## Not promised");
        Matcher next = Pattern.compile("(?m)^## Promise (\\d+): .*$").matcher(document);
        int from = terms + "## Terms".length();
        int number = TERMS;
        while (next.find()) {
            texts[number] = plain(document.substring(from, next.start()));
            number = Integer.parseInt(next.group(1));
            from = next.end();
        }
        texts[number] = plain(document.substring(from, end));
        heads = plain(document.substring(0, terms).replaceAll("(?s)```.*?```", ""));
        leaveHeadsOut();
        for (int p = 0; p <= PROMISES; p++) tried[p] = new boolean[texts[p].length()];
    }

    private static String plain(String text) {
        return text.replaceAll("```(text)?|========", " ").replaceAll("(?m)^`[^`]*`:", " ")
            .replaceAll("\\s+", " ").trim();
    }

    /** What stands ahead of groups of calls is mostly their names: it can be named, but need not be. */
    private void leaveHeadsOut() {
        Matcher head = Pattern.compile("Ahead of the calls .*? the interface says: ---- .*?(?=Ahead of the calls|$)")
            .matcher(texts[TERMS]);
        StringBuilder rest = new StringBuilder();
        while (head.find()) {
            heads += " " + head.group();
            head.appendReplacement(rest, "");
        }
        head.appendTail(rest);
        texts[TERMS] = rest.toString();
    }

    /** From here on all checks are of these words of a promise, or of the terms ahead of the promises. */
    void sentence(int promise, String words) {
        if (checksOfSentence == 0) checks.same("no check of: " + sentence, 0, 1);
        sentence = (promise == TERMS ? "terms" : promise) + " \"" + words + "\" ";
        checksOfSentence = 0;
        int at = texts[promise].indexOf(words);
        if (at < 0 && !(promise == TERMS && heads.contains(words))) checks.same("in the document: " + sentence, 0, 1);
        while (at >= 0) {
            for (int k = at; k < at + words.length(); k++) tried[promise][k] = true;
            at = texts[promise].indexOf(words, at + 1);
        }
    }

    void same(String what, long got, long due) {
        checksOfSentence++;
        checks.same(sentence + what, got, due);
    }

    void same(String what, String got, String due) {
        checksOfSentence++;
        checks.same(sentence + what, got, due);
    }

    private static long[] told(DrawerGloves x) {
        return new long[] {x.digest(), x.asked(), x.upper(), x.lower(), x.finding(),
            x.findings(1), x.findings(2), x.findings(3), x.findings(4), x.findings(5)};
    }

    private void stays(String what, long[] is, long[] due) {
        for (int k = 0; k < due.length; k++) same(what + ", then " + TOLD[k], is[k], due[k]);
    }

    /** Also for what answers NONE: nothing at all may be told otherwise afterwards. */
    void refused(DrawerGloves x, int due, String what, Call call) {
        long[] before = told(x);
        same(what, call.on(x), due);
        stays(what, told(x), before);
    }

    void finds(DrawerGloves x, int finding, String what, Call call) {
        long[] due = told(x);
        due[FINDING_AT] = finding;
        due[FINDING_AT + finding]++;
        same(what, call.on(x), FINDING);
        stays(what, told(x), due);
    }

    /** For what is aside: the answer is as due, and no DEED, ROW or TEXT is otherwise afterwards. */
    void aside(DrawerGloves x, int due, String what, Call call) {
        long before = x.digest();
        same(what, call.on(x), due);
        same(what + ", then digest()", x.digest(), before);
    }

    void end() {
        if (checksOfSentence == 0) checks.same("no check of: " + sentence, 0, 1);
        for (int p = 0; p <= PROMISES; p++) {
            for (String left : untried(p)) checks.same("untried of " + p + ": '" + left + "'", 0, 1);
        }
        checks.end();
    }

    private List<String> untried(int p) {
        List<String> all = new ArrayList<>();
        StringBuilder run = new StringBuilder();
        for (int k = 0; k <= texts[p].length(); k++) {
            if (k < texts[p].length() && !tried[p][k]) {
                run.append(texts[p].charAt(k));
            } else {
                if (run.toString().matches(".*[A-Za-z0-9].*")) all.add(run.toString().trim());
                run.setLength(0);
            }
        }
        return all;
    }
}
