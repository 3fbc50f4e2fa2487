import java.io.IOException;
import java.nio.charset.StandardCharsets;
import java.nio.file.Files;
import java.nio.file.Path;

/**
 * What the tests by sentence have in common. says() quotes a sentence of the document and takes a new object; the
 * checks behind it are that sentence's own. A quotation that the document hasn't, or one without a check, fails.
 */
abstract class Sheet {
    static final int BAD = -1, NOT = -2, FULL = -3, WAITS = -4, STATE = -5, BREACH = -6;
    private static final Path DOCUMENT = Path.of("../shared/DOC.md");
    static SessionEnds x;
    static int passed;
    static int failed;
    static int sentences;
    private static String sentence = "";
    private static int checks = 1;
    private static String document;
    private static boolean[] isQuoted;

    static void begin() throws IOException {
        String whole = flat(Files.readString(DOCUMENT, StandardCharsets.UTF_8));
        document = whole.substring(0, whole.indexOf("## Not promised"));
        isQuoted = new boolean[document.length()];
    }

    private static String flat(String text) {
        return text.replaceAll("\\s+", " ");
    }

    /** Quotes a sentence, and takes a new object for its checks. */
    static void says(String quoted) {
        close();
        sentence = quoted;
        sentences++;
        checks = 0;
        fresh();
        if (!cover(quoted)) wrong("the document hasn't '" + quoted + "'");
    }

    /** What names no boundary and asks nothing: headings, and what the sheets tell as a whole. */
    static void passes(String quoted) {
        if (!cover(quoted)) wrong("the document hasn't '" + quoted + "'");
    }

    private static boolean cover(String quoted) {
        String text = flat(quoted);
        int at = document.indexOf(text);
        boolean isThere = at >= 0;
        for (; at >= 0; at = document.indexOf(text, at + 1)) {
            for (int i = at; i < at + text.length(); i++) isQuoted[i] = true;
        }
        return isThere;
    }

    private static void close() {
        if (checks == 0) wrong("no check of '" + sentence + "'");
    }

    /** Tells what of the document no sheet has quoted. */
    static void finish() {
        close();
        for (int from = 0; from < document.length(); from++) {
            if (isQuoted[from] || "# `-.;,:=".indexOf(document.charAt(from)) >= 0) continue;
            int to = from;
            while (to < document.length() && !isQuoted[to]) to++;
            wrong("never quoted: '" + document.substring(from, to) + "'");
            from = to;
        }
    }

    private static void wrong(String what) {
        failed++;
        System.out.println(what);
    }

    static void fresh() {
        x = new SessionEnds();
    }

    static void due(String call, int got, int want) {
        checks++;
        if (got == want) {
            passed++;
            return;
        }
        wrong("'" + sentence + "': " + call + " answered " + got + ", due is " + want);
    }

    static void same(String what, String got, String want) {
        checks++;
        if (got.equals(want)) {
            passed++;
            return;
        }
        wrong("'" + sentence + "': " + what + " is '" + got + "', due is '" + want + "'");
    }

    // ---- calls

    static void feed(String text) {
        for (int i = 0; i < text.length(); i++) x.feed(text.charAt(i));
    }

    static int define(int k, String text) {
        feed(text);
        return x.define(k);
    }

    static int plan(int party, String text) {
        feed(text);
        return x.plan(party);
    }

    /** Defines PROTOCOLS 0, 1, .. */
    static void talks(String... texts) {
        for (int k = 0; k < texts.length; k++) due("define(" + k + ") of " + texts[k], define(k, texts[k]) > 0 ? 1 : 0, 1);
    }

    static void nodes(String text, int want) {
        fresh();
        due("define of " + text, define(0, text), want);
    }

    static void fault(String text, int place) {
        fresh();
        due("define of " + text, define(0, text), -100 - place);
    }

    static void acts(String text, int want) {
        fresh();
        due("plan of " + text, plan(0, text), want);
    }

    static void planFault(String text, int place) {
        fresh();
        due("plan of " + text, plan(0, text), -100 - place);
    }

    static void spelt(int k, String want) {
        StringBuilder all = new StringBuilder();
        int many = x.spell(k, -1);
        for (int i = 0; i < many; i++) all.append((char) x.spell(k, i));
        same("spelling of " + k, all.toString(), want);
    }

    /** Whether the first FITS the second, and the second the first. */
    static void fit(String one, String other, int want, int back) {
        fresh();
        talks(one, other);
        due(one + " FITS " + other, x.fits(0, 1), want);
        due(other + " FITS " + one, x.fits(1, 0), back);
    }

    static void alike(String one, String other, int want) {
        fresh();
        talks(one, other);
        due(one + " SAME " + other, x.same(0, 1), want);
        due(other + " SAME " + one, x.same(1, 0), want);
    }

    /** The WITNESS, its last byte as a figure; empty: it FITS. */
    static void hindered(String one, String other, String want) {
        fresh();
        talks(one, other);
        StringBuilder all = new StringBuilder();
        int many = x.witness(0, 1, -1);
        for (int i = 0; i < many; i++) {
            int sign = x.witness(0, 1, i);
            all.append(i + 1 < many ? (char) sign : (char) (sign + '0'));
        }
        same("witness of " + one + " against " + other, all.toString(), want);
    }

    static void bounds(String text, int sends, int takes) {
        fresh();
        talks(text);
        due("bound(0, 0) of " + text, x.bound(0, 0), sends);
        due("bound(0, 1) of " + text, x.bound(0, 1), takes);
    }

    /** PLACES, JAMS, CLASHES, the fewest moves, the most LETTERS; they are the same with the parties changed about. */
    static void met(String one, String other, int n, int... want) {
        fresh();
        talks(one, other);
        for (int what = 0; what < 5; what++) {
            due("meet(0, 1, " + n + ", " + what + ") of " + one + " and " + other, x.meet(0, 1, n, what), want[what]);
            due("meet(1, 0, " + n + ", " + what + ") of " + one + " and " + other, x.meet(1, 0, n, what), want[what]);
        }
    }

    /** PARTY, STEP, number, END, then the CAUSES. */
    static void blamed(int... told) {
        for (int what = 0; what < 4; what++) due("blame(" + what + ")", x.blame(what), told[what]);
        due("blame(4)", x.blame(4), told.length - 4);
        for (int i = 0; i < 3; i++) due("blame(" + (5 + i) + ")", x.blame(5 + i), 4 + i < told.length ? told[4 + i] : NOT);
    }

    static String many(String text, int times) {
        StringBuilder all = new StringBuilder();
        for (int i = 0; i < times; i++) all.append(text);
        return all.toString();
    }

    // ---- what can be seen of an object

    /** All that a SESSION shows, and the plans, and the tape; not what a refused ACT may change. */
    static String seen() {
        StringBuilder all = new StringBuilder();
        for (int what = 0; what < 7; what++) all.append(x.count(what)).append(' ');
        for (int end = 0; end < 2 * x.count(1); end++) {
            all.append('|');
            for (int what = 0; what < 6; what++) all.append(x.look(end, what)).append(' ');
        }
        for (int party = 0; party < 4; party++) all.append('/').append(x.left(party));
        return all.append('=').append(x.waiting()).toString();
    }

    /** What a refused ACT may change. */
    static String told() {
        StringBuilder all = new StringBuilder();
        for (int what = 0; what < 6; what++) all.append(x.led(what)).append(' ');
        for (int what = 0; what < 8; what++) all.append(x.blame(what)).append(' ');
        return all.toString();
    }
}
