/** Each promise of the document by calls whose answers were found by hand from its words. */
public final class PromiseTests {
    private static final int BAD = -1, NOT = -2, FULL = -3, WAITS = -4, STATE = -5, BREACH = -6;
    private static int passed;
    private static int failed;
    private static SessionEnds x;

    private static void due(String what, int got, int want) {
        if (got == want) {
            passed++;
            return;
        }
        failed++;
        System.out.println(what + " answered " + got + ", due is " + want);
    }

    private static void feed(String text) {
        for (int i = 0; i < text.length(); i++) x.feed(text.charAt(i));
    }

    private static int define(int k, String text) {
        feed(text);
        return x.define(k);
    }

    private static int plan(int party, String text) {
        feed(text);
        return x.plan(party);
    }

    private static String spelling(int k) {
        StringBuilder all = new StringBuilder();
        int many = x.spell(k, -1);
        for (int i = 0; i < many; i++) all.append((char) x.spell(k, i));
        return all.toString();
    }

    private static String witness(int j, int k) {
        StringBuilder all = new StringBuilder();
        int many = x.witness(j, k, -1);
        for (int i = 0; i < many; i++) {
            int one = x.witness(j, k, i);
            all.append(one < 10 ? "" + one : "" + (char) one);
        }
        return all.toString();
    }

    private static void text(String what, String got, String want) {
        due(what + " '" + got + "' for '" + want + "'", got.equals(want) ? 1 : 0, 1);
    }

    private static String many(String text, int times) {
        StringBuilder all = new StringBuilder();
        for (int i = 0; i < times; i++) all.append(text);
        return all.toString();
    }

    /** party, step, number, end, then the CAUSES. */
    private static void blamed(String what, int... told) {
        for (int i = 0; i < 4; i++) due(what + ", blame(" + i + ")", x.blame(i), told[i]);
        due(what + ", blame(4)", x.blame(4), told.length - 4);
        for (int i = 0; i < 3; i++) {
            due(what + ", blame(" + (5 + i) + ")", x.blame(5 + i), 4 + i < told.length ? told[4 + i] : NOT);
        }
    }

    private static void fault(String text, int place) {
        x = new SessionEnds();
        due("fault of " + text, define(0, text), -100 - place);
    }

    private static void planFault(String text, int place) {
        due("fault of plan " + text, plan(0, text), -100 - place);
    }

    public static void main(String[] args) {
        promise1New();
        promise2Feed();
        promise3Define();
        promise3Faults();
        promise3Limits();
        promise4Dual();
        promise5Spell();
        promise6Ask();
        promise7Same();
        promise8Fits();
        promise9Witness();
        promise9Long();
        promise10Bound();
        promise11Meet();
        promise11Places();
        promise12Open();
        promise13Size();
        promise14Say();
        promise15Hear();
        promise16And17Choose();
        promise18And19Give();
        promise18Hindered();
        promise18Itself();
        promise20End();
        promise21Look();
        promise22Blame();
        promise23Plan();
        promise23Faults();
        promise24Run();
        promise24Endings();
        promise25And26();
        promise27And28Image();
        promise29And30();
        System.out.println(passed + " passed, " + failed + " failed");
        if (failed != 0) System.exit(1);
    }

    private static void promise1New() {
        x = new SessionEnds();
        for (int what = 0; what < 7; what++) due("new: count " + what, x.count(what), what == 5 ? 2 : 0);
        for (int what = 0; what < 6; what++) due("new: led " + what, x.led(what), 0);
        for (int what = 0; what < 8; what++) due("new: blame " + what, x.blame(what), STATE);
        due("new: back", x.back(), STATE);
        due("new: left", x.left(0), 0);
        due("new: waiting", x.waiting(), 0);
        due("new: run", x.run(1, 200), 0);
        due("new: spell", x.spell(0, 0), BAD);
        due("new: look", x.look(0, 0), BAD);
        due("new: say", x.say(0, 0, 0), BAD);
        due("new: a BAD one is no STEP", x.led(0), 0);
    }

    private static void promise2Feed() {
        x = new SessionEnds();
        due("feed 0", x.feed(0), BAD);
        due("feed 256", x.feed(256), BAD);
        due("feed -1", x.feed(-1), BAD);
        due("feed 1", x.feed(1), 1);
        due("feed 255", x.feed(255), 2);
        for (int i = 3; i <= 200; i++) due("feed " + i, x.feed(48), i);
        due("feed to a full one", x.feed(48), FULL);
        due("feed BAD ahead of FULL", x.feed(0), BAD);
        due("feed: bytes", x.count(2), 200);
    }

    private static void promise3Define() {
        x = new SessionEnds();
        due("define END", define(0, "0"), 1);
        due("define 15", define(15, "!i.0"), 2);
        due("define again", define(15, "*x.!i.x"), 3);
        feed("0");
        due("define 16", x.define(16), BAD);
        due("define -1", x.define(-1), BAD);
        due("define BAD leaves the tape", x.count(2), 1);
        due("define 1", x.define(1), 1);
        due("define empties the tape", x.count(2), 0);
        due("define a fault", define(15, "!i.!"), -104);
        due("define: a fault empties the tape", x.count(2), 0);
        text("define: a fault leaves the PROTOCOL", spelling(15), "*x.!i.x");
        due("define: how many", x.count(0), 3);
        due("define a fault for none", define(7, "!"), -101);
        due("define: none still", x.ask(7, 0), BAD);
        due("define by an empty tape", x.define(3), -100);
    }

    private static void promise3Faults() {
        x = new SessionEnds();
        fault("x", 0);
        fault("!i.x", 3);
        fault("*x.x", 3);
        fault("*x.*y.x", 6);
        fault("*x.*y.y", 6);
        fault("*x.*x.x", 6);
        due("a LOOP behind a SEND", define(0, "*x.!i.*y.x"), 4);
        due("the innermost of a letter", define(0, "*x.!i.*x.?b.x"), 5);
        fault("*x.!i.*x.x", 9);
        due("a LABEL is enough", define(0, "*x.+{a:x}"), 3);
        fault("*x.!(x).0", 5);
        fault("*x.!(!i.x).x", 8);
        due("the same letter in brackets", define(0, "*x.!(*x.!i.x).x"), 6);
        fault("!(*x.!i.x).x", 11);
        fault("+{a:0,a:0}", 6);
        fault("+{a:0,b:+{b:0,a:0,b:0}}", 18);
        due("LABELS in other braces", define(0, "+{a:+{a:0},b:&{a:0}}"), 5);
        due("six LABELS", define(0, "+{f:0,e:0,d:0,c:0,b:0,a:0}"), 7);
        fault("+{a:0,b:0,c:0,d:0,e:0,f:0,g:0}", 25);
        fault("+{}", 2);
        fault("+{A:0}", 2);
        fault("+a:0}", 1);
        fault("+{a.0}", 3);
        fault("+{a:0;b:0}", 5);
        fault("+{a:0,}", 6);
        fault("!n.0", 1);
        fault("!i0", 2);
        fault("!(0.0", 3);
        fault("!().0", 2);
        fault("*X.0", 1);
        fault("*x0", 2);
        fault("00", 1);
        fault("0 ", 1);
        fault(" 0", 0);
        fault("1", 0);
        fault("X", 0);
        fault("!", 1);
        fault("!i", 2);
        fault("!i.", 3);
        fault("+", 1);
        fault("+{", 2);
        fault("+{a", 3);
        fault("+{a:", 4);
        fault("+{a:0", 5);
        fault("*", 1);
        fault("*x", 2);
        fault("*x.", 3);
        fault("!(0", 3);
        fault("!(0)", 4);
    }

    private static void promise3Limits() {
        x = new SessionEnds();
        due("60 NODES", define(0, many("!i.", 59) + "0"), 60);
        fault(many("!i.", 60) + "0", 180);
        fault(many("!i.", 60) + "%", 180);
        fault(many("!i.", 60), 180);
        due("60 NODES with an AGAIN", define(0, "*x." + many("?b.", 58) + "x"), 60);
        fault("*x." + many("?b.", 59) + "x", 180);
        due("60 NODES, some in brackets", define(0, "!(" + many("!i.", 29) + "0)." + many("?b.", 28) + "0"), 60);
        fault("!(" + many("!i.", 29) + "0)." + many("?b.", 29) + "0", 179);
        due("eight brackets", define(1, many("!(", 8) + "0" + many(").0", 8)), 17);
        due("eight brackets deep", x.ask(1, 3), 8);
        fault(many("!(", 9) + "0" + many(").0", 9), 17);
        due("eight braces", define(0, many("+{a:", 8) + "0" + many("}", 8)), 9);
        fault(many("+{a:", 9) + "0" + many("}", 9), 33);
        due("four of each", define(2, many("+{a:!(", 4) + "0" + many(").0}", 4)), 13);
        due("four of each: brackets alone", x.ask(2, 3), 4);
        fault(many("+{a:!(", 4) + "+{a:0}" + many(").0}", 4), 25);
        fault(many("+{a:!(", 4) + "?(0).0" + many(").0}", 4), 25);
        due("closed ones don't count", define(0, "!(0)." + many("?(", 8) + "0" + many(").0", 8)), 19);
        String six = "+{a:0,b:0,c:0,d:0,e:0,f:0}";
        String all = "+{a:" + six + ",b:" + six + ",c:" + six + ",d:" + six + ",e:" + six + ",f:" + six + "}";
        due("200 bytes", define(0, many("!i.", 8) + all), 51);
        due("200 bytes spelt", x.spell(0, -1), 200);
        text("200 bytes: the text", spelling(0), many("!i.", 8) + all);
    }

    private static void promise4Dual() {
        x = new SessionEnds();
        define(0, "*x.+{b:!i.x,a:?(!b.&{c:0}).0,c:&{a:!(?i.0).x}}");
        int nodes = x.ask(0, 0);
        due("dual", x.dual(0, 9), nodes);
        text("dual: the text", spelling(9), "*x.&{a:!(!b.&{c:0}).0,b:?i.x,c:+{a:?(?i.0).x}}");
        due("dual of dual", x.dual(9, 9), nodes);
        text("dual of dual: the text", spelling(9), spelling(0));
        due("dual: SAME", x.same(9, 0), 1);
        due("dual of none", x.dual(1, 2), BAD);
        due("dual into 16", x.dual(0, 16), BAD);
        due("dual into -1", x.dual(0, -1), BAD);
        due("dual of -1", x.dual(-1, 0), BAD);
        due("dual: how many", x.count(0), 2);
        feed("!");
        x.dual(0, 3);
        due("dual leaves the tape", x.count(2), 1);
    }

    private static void promise5Spell() {
        x = new SessionEnds();
        define(4, "&{z:0,m:*q.!b.q,a:+{d:0,c:?i.0}}");
        text("spell", spelling(4), "&{a:+{c:?i.0,d:0},m:*q.!b.q,z:0}");
        due("spell: how many", x.spell(4, -1), 32);
        due("spell: the last", x.spell(4, 31), '}');
        due("spell: behind the last", x.spell(4, 32), NOT);
        due("spell: far behind", x.spell(4, Integer.MAX_VALUE), NOT);
        due("spell -2", x.spell(4, -2), BAD);
        due("spell none", x.spell(5, 0), BAD);
        due("spell 16", x.spell(16, 0), BAD);
    }

    private static void promise6Ask() {
        x = new SessionEnds();
        define(0, "*x.!(?i.!b.0).+{c:x,a:?(!(0).0).0,b:*y.!(?i.!b.0).+{a:?(!(0).0).0,b:y,c:x}}");
        due("ask NODES", x.ask(0, 0), 25);
        due("ask STATES", x.ask(0, 1), 8);
        due("ask unlike", x.ask(0, 2), 4);
        due("ask brackets", x.ask(0, 3), 2);
        due("ask the kind", x.ask(0, 4), 1);
        due("ask LABELS", x.ask(0, 5), 0);
        due("ask 6", x.ask(0, 6), BAD);
        due("ask -1", x.ask(0, -1), BAD);
        due("ask none", x.ask(1, 0), BAD);
        define(1, "0");
        due("ask END", x.ask(1, 4), 0);
        define(1, "?b.0");
        due("ask TAKE", x.ask(1, 4), 2);
        define(1, "*q.*r.+{c:q,z:r}");
        due("ask CHOOSE behind LOOPS", x.ask(1, 4), 3);
        due("ask its LABELS", x.ask(1, 5), 4 + (1 << 25));
        due("ask one STATE", x.ask(1, 1), 1);
        define(1, "&{a:0,b:0}");
        due("ask OFFER", x.ask(1, 4), 4);
        due("ask its LABELS", x.ask(1, 5), 3);
        due("ask SAME ENDS", x.ask(1, 2), 2);
        due("ask no brackets", x.ask(1, 3), 0);
        define(1, "!i.!b.!(0).!(!i.0).?i.0");
        due("ask unlike by T", x.ask(1, 2), 6);
        define(1, "!(*x.!i.x).!(*y.!i.!i.y).0");
        due("ask: no two behind one another are SAME", x.ask(1, 2), 3);
        define(1, "*x.!(*y.!i.y).!(*y.!i.!i.y).x");
        due("ask: SAME in brackets", x.ask(1, 2), 1);
    }

    private static void promise7Same() {
        x = new SessionEnds();
        define(0, "*x.!i.?b.x");
        define(1, "!i.*x.?b.!i.x");
        define(2, "*x.!i.?b.!i.?i.x");
        define(3, "!(0).0");
        define(4, "!(!i.0).0");
        define(5, "*x.*y.+{a:x,b:y}");
        define(6, "*z.+{b:+{b:z,a:z},a:z}");
        define(7, "*z.+{a:z}");
        define(8, "*z.&{a:z,b:z}");
        due("same, unrolled", x.same(0, 1), 1);
        due("same, other letters", x.same(5, 6), 1);
        due("same, unlike far on", x.same(0, 2), 0);
        due("same, brackets", x.same(3, 4), 0);
        due("same, fewer LABELS", x.same(5, 7), 0);
        due("same, more LABELS", x.same(7, 5), 0);
        due("same, kinds", x.same(5, 8), 0);
        due("same with itself", x.same(4, 4), 1);
        due("same BAD", x.same(0, 9), BAD);
        due("same BAD", x.same(-1, 0), BAD);
    }

    private static void promise8Fits() {
        x = new SessionEnds();
        define(0, "+{a:0}");
        define(1, "+{a:0,b:0}");
        define(2, "&{a:0}");
        define(3, "&{a:0,b:0}");
        due("a CHOOSE of fewer FITS", x.fits(0, 1), 1);
        due("a CHOOSE of more doesn't", x.fits(1, 0), 0);
        due("an OFFER of more FITS", x.fits(3, 2), 1);
        due("an OFFER of fewer doesn't", x.fits(2, 3), 0);
        define(4, "!(+{a:0}).0");
        define(5, "!(+{a:0,b:0}).0");
        define(6, "?(+{a:0}).0");
        define(7, "?(+{a:0,b:0}).0");
        due("SEND turns: (A), (B), B FITS A", x.fits(5, 4), 1);
        due("SEND turns, the other way", x.fits(4, 5), 0);
        due("TAKE doesn't turn", x.fits(6, 7), 1);
        due("TAKE doesn't turn, the other way", x.fits(7, 6), 0);
        define(8, "!(!(+{a:0}).0).0");
        define(9, "!(!(+{a:0,b:0}).0).0");
        due("two turns", x.fits(8, 9), 1);
        due("two turns, the other way", x.fits(9, 8), 0);
        define(10, "*x.+{a:?i.x}");
        define(11, "*x.+{a:?i.+{a:?i.x,b:!b.x},b:0}");
        due("LOOPS without a hindrance", x.fits(10, 11), 1);
        due("LOOPS with one", x.fits(11, 10), 0);
        define(12, "!i.0");
        define(13, "!b.0");
        due("i is not b", x.fits(12, 13), 0);
        define(13, "!(0).0");
        due("i is not brackets", x.fits(12, 13), 0);
        define(13, "?i.0");
        due("SEND is not TAKE", x.fits(12, 13), 0);
        define(13, "0");
        due("END is not SEND", x.fits(13, 12), 0);
        due("END and END", x.fits(13, 13), 1);
        due("fits BAD", x.fits(13, 14), BAD);
        due("fits BAD", x.fits(16, 13), BAD);
        define(14, "+{a:!i.0,b:0}");
        define(15, "+{a:!b.0,b:0,c:0}");
        due("hindered behind a LABEL", x.fits(14, 15), 0);
    }

    private static void promise9Witness() {
        x = new SessionEnds();
        define(0, "!i.+{b:0,a:?i.?i.0}");
        define(1, "!i.+{a:?i.?b.0,b:!i.0,c:0}");
        text("witness: shortest, then by bytes", witness(0, 1), ".b1");
        define(2, "!i.+{b:!b.0,a:?b.0}");
        text("witness: first by bytes", witness(2, 1), ".a2");
        text("witness: LABELS", witness(1, 0), ".3");
        define(3, "!i.?i.0");
        text("witness: kinds", witness(3, 0), ".1");
        define(4, "&{a:0,b:?i.?i.?i.0,c:0}");
        define(5, "&{b:?i.?i.?b.0,a:0}");
        text("witness: by LABELS that both have", witness(4, 5), "b..2");
        text("witness: an OFFER of fewer", witness(5, 4), "3");
        define(6, "!(+{a:0,b:0}).0");
        define(7, "!(+{b:0}).?i.0");
        text("witness: T that FITS is gone past", witness(6, 7), ".1");
        text("witness: T hinders", witness(7, 6), "2");
        due("witness: how many", x.witness(0, 1, -1), 3);
        due("witness: its last", x.witness(0, 1, 2), 1);
        due("witness: behind its last", x.witness(0, 1, 3), NOT);
        due("witness of what FITS", x.witness(0, 0, -1), NOT);
        due("witness of what FITS", x.witness(0, 0, 5), NOT);
        due("witness -2", x.witness(0, 1, -2), BAD);
        due("witness -2 of what FITS", x.witness(0, 0, -2), BAD);
        due("witness BAD", x.witness(0, 9, -1), BAD);
        due("witness BAD", x.witness(17, 0, -1), BAD);
    }

    private static void promise9Long() {
        x = new SessionEnds();
        define(0, "*x." + many("!i.", 18) + "!b.x");
        define(1, "*x." + many("!i.", 19) + "!b.x");
        text("witness: at the first b", witness(0, 1), many(".", 18) + "2");
        define(2, "*x.+{a:+{a:+{a:+{a:x}}}}");
        define(3, "*x.+{a:+{a:+{a:+{a:+{a:x,b:x}}}}}");
        due("rounds of two lengths", x.fits(2, 3), 1);
        text("rounds of two lengths, back", witness(3, 2), "aaaa3");
        // The first has b at 5, 11, .. alone, the other one's is another one at 4, 9, ..: both at 29 first.
        define(4, "*x.+{a:+{a:+{a:+{a:+{a:+{a:x,b:0}}}}}}");
        define(5, "*x.+{b:0,a:+{b:0,a:+{b:0,a:+{b:0,a:+{b:!i.0,a:x}}}}}");
        text("both rounds at once", witness(4, 5), many("a", 29) + "b1");
        x = new SessionEnds();
        // Of 13 SENDS the last one hinders the last one of 17: both come at once behind 13 * 17 - 1.
        define(6, "*x." + many("!(+{a:0,b:0}).", 12) + "!(+{a:0}).x");
        define(7, "*x." + many("!(+{a:0}).", 16) + "!(+{a:0,b:0}).x");
        due("rounds of SENDS: how many", x.witness(6, 7, -1), 221);
        due("rounds of SENDS: the last but one", x.witness(6, 7, 219), '.');
        due("rounds of SENDS: the last", x.witness(6, 7, 220), 2);
    }

    private static void promise10Bound() {
        x = new SessionEnds();
        define(0, "*x.!i.+{a:!b.?i.x,b:?i.?i.?b.&{a:x,b:0}}");
        due("bound of SENDS", x.bound(0, 0), 3);
        due("bound of TAKES", x.bound(0, 1), 4);
        define(1, "*x.!i.+{a:x,b:?i.0}");
        due("bound: round through SENDS alone", x.bound(1, 0), NOT);
        due("bound: the other side has one", x.bound(1, 1), 1);
        define(2, "!i.*x.+{a:?b.x,b:!(?i.?i.?i.0).!i.x}");
        due("bound: round through SENDS and CHOOSES", x.bound(2, 0), NOT);
        define(3, "!i.*x.+{a:?b.x,b:!(?i.?i.?i.0).?i.x}");
        due("bound: brackets are no way", x.bound(3, 1), 1);
        due("bound: behind one another", x.bound(3, 0), 3);
        define(4, "0");
        due("bound of END", x.bound(4, 0), 0);
        define(5, many("?i.", 59) + "0");
        due("bound 59", x.bound(5, 1), 59);
        x = new SessionEnds();
        define(5, "*x." + many("?i.", 57) + "!i.x");
        due("bound 57", x.bound(5, 1), 57);
        define(5, "*x." + many("?i.", 58) + "x");
        due("bound without an end", x.bound(5, 1), NOT);
        define(5, "*x.?i.?i.!i.?i.x");
        due("bound: over the beginning of a LOOP", x.bound(5, 1), 3);
        due("bound side 2", x.bound(5, 2), BAD);
        due("bound side -1", x.bound(5, -1), BAD);
        due("bound of none", x.bound(9, 0), BAD);
    }

    private static void met(String what, int n, int... told) {
        for (int i = 0; i < 5; i++) due(what + ", meet " + i, x.meet(0, 1, n, i), told[i]);
    }

    private static void promise11Meet() {
        x = new SessionEnds();
        define(0, "!i.0");
        x.dual(0, 1);
        met("one SEND", 1, 3, 0, 0, NOT, 1);
        define(1, "?b.0");
        met("T clash", 1, 2, 0, 1, 1, 1);
        define(1, "&{a:0}");
        met("a SEND to an OFFER", 1, 2, 0, 1, 1, 1);
        define(1, "0");
        met("a LETTER left over", 1, 2, 1, 0, 1, 1);
        define(0, "?i.0");
        define(1, "?i.0");
        met("both wait", 2, 1, 1, 0, 0, 0);
        define(0, "!i.?i.0");
        define(1, "!i.?i.0");
        met("both SEND first", 1, 7, 0, 0, NOT, 1);
        define(0, "!i.!i.0");
        define(1, "?i.?i.0");
        met("lines of 1", 1, 5, 0, 0, NOT, 1);
        met("lines of 2", 2, 6, 0, 0, NOT, 2);
        define(0, "!i.!i.!i.0");
        define(1, "0");
        met("a full line of 1", 1, 2, 1, 0, 1, 1);
        met("a full line of 2", 2, 3, 1, 0, 2, 2);
        define(0, "+{a:0,b:0}");
        define(1, "&{a:0,c:0}");
        met("a LABEL that it hasn't", 1, 4, 0, 1, 1, 1);
        define(0, "!(+{a:0}).0");
        define(1, "?(+{a:0,b:0}).0");
        met("the TAKE's P must FIT", 1, 2, 0, 1, 1, 1);
        met("brackets the other way", 1, 2, 0, 1, 1, 1);
        define(0, "!(+{a:0,b:0}).0");
        define(1, "?(+{a:0}).0");
        met("it FITS", 1, 3, 0, 0, NOT, 1);
        // The END of either may hold a LETTER of the first or the second SEND, as these are unlike ones.
        define(0, "*x.+{a:x,b:x}");
        define(1, "0");
        met("LABELS are alike wherever chosen", 2, 7, 4, 0, 2, 2);
        define(0, "+{a:!i.0,b:!i.0}");
        met("SENDS at unlike places", 2, 5, 2, 0, 2, 2);
        due("meet n 0", x.meet(0, 1, 0, 0), BAD);
        due("meet n 3", x.meet(0, 1, 3, 0), BAD);
        due("meet what 5", x.meet(0, 1, 1, 5), BAD);
        due("meet what -1", x.meet(0, 1, 1, -1), BAD);
        due("meet none", x.meet(0, 2, 1, 0), BAD);
        due("meet none", x.meet(2, 0, 1, 0), BAD);
    }

    private static void promise11Places() {
        x = new SessionEnds();
        define(0, "*x.+{a:+{a:x,b:x},b:x,c:+{a:x,b:x,c:x},d:x,e:+{a:x,b:x,c:x,d:x}}");
        define(1, "*x.&{a:x,b:+{a:x,b:x,c:x,d:0,e:x},c:+{a:x,b:x,c:x,d:x}}");
        due("meet of 3000 PLACES", x.meet(0, 1, 2, 0), 3000);
        define(0, "*x.+{a:x,b:x,c:x,d:x,e:0}");
        define(1, "*x.&{a:&{a:x,b:x,c:+{a:0,b:x,c:x,d:x},d:+{a:x,b:0}},b:&{a:x,b:x,c:x,d:x,e:x}}");
        for (int what = 0; what < 5; what++) due("meet of 3001 PLACES", x.meet(0, 1, 2, what), FULL);
        due("meet: BAD ahead of FULL", x.meet(0, 1, 2, 5), BAD);
        due("meet: FULL by lines of 2 alone", x.meet(0, 1, 1, 0) > 0 ? 1 : 0, 1);
    }

    private static void promise12Open() {
        x = new SessionEnds();
        define(0, "!i.0");
        due("open none", x.open(1, 0, 0), BAD);
        due("open PARTY 4", x.open(0, 4, 0), BAD);
        due("open PARTY -1", x.open(0, 0, -1), BAD);
        for (int i = 0; i < 8; i++) due("open", x.open(0, i % 4, 3), i);
        due("open a ninth", x.open(0, 0, 0), FULL);
        due("open a ninth BAD", x.open(0, 0, 4), BAD);
        due("open: the first HOLDS", x.look(4, 0), 2);
        due("open: the second HOLDS", x.look(5, 0), 3);
        due("open: the first follows", x.look(4, 1), 1);
        due("open: the second follows the DUAL", x.look(5, 1), 2);
        due("open: how many", x.count(1), 8);
        define(0, "?b.0");
        due("open: goes on by its PROTOCOL", x.say(2, 4, 5), 1);
        due("open: p and q may be one", x.look(6, 0) + x.look(7, 0), 6);
    }

    private static void promise13Size() {
        x = new SessionEnds();
        define(0, many("!i.", 9) + "0");
        x.open(0, 0, 1);
        due("size 0", x.size(0), BAD);
        due("size 5", x.size(5), BAD);
        due("size 4", x.size(4), 2);
        for (int i = 0; i < 4; i++) due("say to a line of 4", x.say(0, 0, i), 1);
        due("say to a full one", x.say(0, 0, 4), WAITS);
        due("size 1", x.size(1), 4);
        due("what lies there stays", x.look(1, 3), 4);
        for (int i = 0; i < 3; i++) due("hear", x.hear(1, 1), i);
        due("one lies there: full", x.say(0, 0, 4), WAITS);
        due("hear", x.hear(1, 1), 3);
        due("none lies there", x.say(0, 0, 999), 1);
        due("hear", x.hear(1, 1), 999);
        due("the most", x.look(1, 4), 4);
        due("size", x.count(5), 1);
    }

    private static void promise14Say() {
        x = new SessionEnds();
        define(0, "!i.!i.!b.!(0).0");
        x.open(0, 0, 1);
        due("say PARTY 4", x.say(4, 0, 0), BAD);
        due("say PARTY -1", x.say(-1, 0, 0), BAD);
        due("say END 2", x.say(0, 2, 0), BAD);
        due("say END -1", x.say(0, -1, 0), BAD);
        due("BAD: no STEP", x.led(0), 0);
        due("say 1000", x.say(0, 0, 1000), BREACH);
        blamed("say 1000", 0, 1, 4, 0, 1000);
        due("say -1", x.say(0, 0, -1), BREACH);
        blamed("say -1", 0, 2, 4, 0, -1);
        due("say 999", x.say(0, 0, 999), 1);
        due("say 0", x.say(0, 0, 0), 1);
        due("BREACH ahead of WAITS", x.say(0, 0, 2), BREACH);
        blamed("say 2 for b", 0, 5, 4, 0, 2);
        due("WAITS", x.say(0, 0, 1), WAITS);
        due("WAITS changes nothing", x.look(0, 1), 1);
        due("a WAITS is a STEP", x.led(0), 6);
        x.hear(1, 1);
        due("say 1", x.say(0, 0, 1), 1);
        due("say at brackets", x.say(0, 0, 1), BREACH);
        blamed("say at brackets", 0, 9, 3, 0, 1, 1);
        due("say by another", x.say(2, 0, 1), BREACH);
        blamed("say by another", 2, 10, 1, 0, 0);
        due("say at a TAKE", x.say(1, 1, 1), BREACH);
        blamed("say at a TAKE", 1, 11, 3, 1, 2, 1);
    }

    private static void promise15Hear() {
        x = new SessionEnds();
        define(0, "!i.!i.!b.?i.0");
        x.open(0, 0, 1);
        due("hear WAITS", x.hear(1, 1), WAITS);
        x.say(0, 0, 7);
        x.say(0, 0, 8);
        due("hear the first", x.hear(1, 1), 7);
        due("hear the second", x.hear(1, 1), 8);
        x.say(0, 0, 1);
        due("hear b", x.hear(1, 1), 1);
        due("hear at a SEND", x.hear(1, 1), BREACH);
        blamed("hear at a SEND", 1, 8, 3, 1, 1, 2);
        due("hear END 2", x.hear(1, 2), BAD);
        due("hear PARTY 4", x.hear(4, 1), BAD);
        due("take at a TAKE of i", x.take(0, 0), BREACH);
        blamed("take at a TAKE of i", 0, 9, 3, 0, 2, 2);
    }

    private static void promise16And17Choose() {
        x = new SessionEnds();
        define(0, "*x.+{c:!i.x,a:x,z:0}");
        x.open(0, 0, 1);
        due("choose b", x.choose(0, 0, 'b'), BREACH);
        blamed("choose b", 0, 1, 4, 0, 98);
        due("choose what is no letter", x.choose(0, 0, 300), BREACH);
        blamed("choose what is no letter", 0, 2, 4, 0, 300);
        due("choose a as 0", x.choose(0, 0, 0), BREACH);
        due("choose a as 97 + 32", x.choose(0, 0, 129), BREACH);
        due("offered WAITS", x.offered(1, 1), WAITS);
        due("choose c", x.choose(0, 0, 'c'), 1);
        due("say", x.say(0, 0, 4), 1);
        due("choose WAITS", x.choose(0, 0, 'a'), WAITS);
        due("offered c", x.offered(1, 1), 'c');
        due("choose z", x.choose(0, 0, 'z'), 1);
        due("hear", x.hear(1, 1), 4);
        due("choose at an END", x.choose(0, 0, 'z'), BREACH);
        blamed("choose at an END", 0, 12, 3, 0, 0, 3);
        due("offered z", x.offered(1, 1), 'z');
        due("offered at an END", x.offered(1, 1), BREACH);
        blamed("offered at an END", 1, 14, 3, 1, 0, 4);
        due("choose PARTY 4", x.choose(4, 0, 'a'), BAD);
        due("choose END 3", x.choose(0, 3, 'a'), BAD);
        due("offered PARTY 5", x.offered(5, 0), BAD);
        due("offered END -1", x.offered(0, -1), BAD);
    }

    private static void promise18And19Give() {
        x = new SessionEnds();
        define(0, "+{a:!i.0,b:0}");
        define(1, "!(+{a:!i.0}).?i.0");
        due("open", x.open(0, 0, 1), 0);
        due("open", x.open(1, 0, 2), 1);
        due("give PARTY 4", x.give(4, 2, 0), BAD);
        due("give no such END", x.give(0, 4, 0), BAD);
        due("give no such END to be given", x.give(0, 2, 4), BAD);
        due("give END -1", x.give(0, 2, -1), BAD);
        due("give itself", x.give(0, 2, 2), BREACH);
        blamed("give itself", 0, 1, 4, 2, 2);
        due("give what another HOLDS", x.give(0, 2, 1), BREACH);
        blamed("give what another HOLDS", 0, 2, 4, 2, 1);
        due("give at a CHOOSE", x.give(0, 0, 2), BREACH);
        blamed("give at a CHOOSE", 0, 3, 3, 0, 3, 1);
        due("give", x.give(0, 2, 0), 1);
        due("given: nobody HOLDS it", x.look(0, 0), 9);
        due("given: its STATE", x.look(0, 2), 1);
        due("given: on the line", x.look(3, 3), 1);
        due("given: nobody", x.count(6), 1);
        due("choose at what was given", x.choose(0, 0, 'a'), BREACH);
        blamed("choose at what was given", 0, 5, 1, 0, 9);
        due("hear at brackets", x.hear(2, 3), BREACH);
        blamed("hear at brackets", 2, 6, 3, 3, 2, 2);
        due("take", x.take(2, 3), 0);
        due("taken: who HOLDS it", x.look(0, 0), 2);
        due("choose b no more", x.choose(2, 0, 'b'), BREACH);
        blamed("choose b no more", 2, 8, 4, 0, 98);
        due("choose a", x.choose(2, 0, 'a'), 1);
        due("say", x.say(2, 0, 5), 1);
        due("offered", x.offered(1, 1), 'a');
        due("hear", x.hear(1, 1), 5);
        due("end", x.end(2, 0), 1);
        due("end", x.end(1, 1), 1);
        due("ENDS given", x.led(4), 1);
        due("take PARTY -1", x.take(-1, 3), BAD);
        due("take END 4", x.take(2, 4), BAD);
    }

    private static void promise18Hindered() {
        x = new SessionEnds();
        define(0, "!i.+{a:0,b:!b.0}");
        define(1, "!(!i.+{a:0,b:!i.0}).!(0).!(0).!(0).0");
        x.open(0, 0, 1);
        x.open(1, 0, 2);
        due("give what it FITS not", x.give(0, 2, 0), BREACH);
        blamed("give what it FITS not", 0, 1, 5, 2, 0, 2, 3);
        x.say(0, 0, 3);
        due("give a STATE further on", x.give(0, 2, 0), BREACH);
        blamed("give a STATE further on", 0, 3, 5, 2, 0, 1, 1);
        define(2, "!(+{a:0,c:0}).0");
        x.open(2, 0, 3);
        due("give: LABELS hinder", x.give(0, 4, 0), BREACH);
        blamed("give: LABELS hinder", 0, 4, 5, 4, 0, 3, 1);
        define(3, "!(+{b:!b.0}).0");
        x.open(3, 0, 3);
        due("give: the STATE as it goes on", x.give(0, 6, 0), 1);
        x = new SessionEnds();
        define(4, "0");
        define(5, "!(0).!(0).!(0).!(0).0");
        x.open(5, 0, 1);
        for (int i = 1; i < 4; i++) x.open(4, 0, 0);
        due("end", x.end(0, 2), 1);
        due("give what is ENDED", x.give(0, 0, 2), BREACH);
        blamed("give what is ENDED", 0, 2, 4, 0, 2);
        due("give", x.give(0, 0, 3), 1);
        due("give", x.give(0, 0, 4), 1);
        due("give: the BREACH ahead of WAITS", x.give(0, 0, 3), BREACH);
        due("give WAITS", x.give(0, 0, 5), WAITS);
        due("give WAITS: it HOLDS it", x.look(5, 0), 0);
        due("take", x.take(1, 1), 3);
        due("give", x.give(0, 0, 5), 1);
        due("take", x.take(1, 1), 4);
        due("take", x.take(1, 1), 5);
        due("take WAITS", x.take(1, 1), WAITS);
        due("ENDED first", x.end(0, 2), BREACH);
        blamed("ENDED first", 0, 12, 2, 2, 1);
    }

    private static void promise18Itself() {
        x = new SessionEnds();
        define(0, "!(?(0).0).!i.0");
        x.open(0, 1, 1);
        due("give the other END", x.give(1, 0, 1), BREACH);
        blamed("give the other END: FITS not", 1, 1, 5, 0, 1, 2, 1);
        // A SEND of what goes on as the other END does: +{a} there FITS its +{a,b} behind the OFFER.
        define(1, "&{c:!(+{a:0}).?i.0,d:+{a:0,b:0}}");
        define(2, "*x.&{c:!(*y.+{c:y}).x,d:0}");
        x.open(2, 2, 2);
        x.choose(2, 3, 'c');
        x.offered(2, 2);
        due("the other END is at a TAKE", x.give(2, 2, 3), BREACH);
        blamed("the other END is at a TAKE", 2, 4, 5, 2, 3, 1, 1);
        define(3, "!(?(0).0).0");
        define(4, "!i.!(*x.?i.x).0");
        x.open(4, 3, 3);
        x.say(3, 4, 1);
        due("the other END is behind", x.give(3, 4, 5), BREACH);
        blamed("the other END is behind", 3, 6, 5, 4, 5, 2, 2);
        define(5, "!i.!(?i.?(0).0).0");
        x.open(5, 0, 0);
        x.say(0, 6, 1);
        due("give it, but for T", x.give(0, 6, 7), BREACH);
        blamed("give it, but for T", 0, 8, 5, 6, 7, 2, 2);
    }

    private static void promise20End() {
        x = new SessionEnds();
        define(0, "!i.0");
        x.open(0, 0, 1);
        due("end at a SEND", x.end(0, 0), BREACH);
        blamed("end at a SEND", 0, 1, 3, 0, 1, 0);
        x.say(0, 0, 1);
        due("end", x.end(0, 0), 1);
        due("end again", x.end(0, 0), BREACH);
        blamed("end again", 0, 4, 2, 0, 3);
        due("end by another", x.end(1, 0), BREACH);
        blamed("end by another", 1, 5, 1, 0, 0);
        due("say at what is ENDED", x.say(0, 0, 1), BREACH);
        blamed("say at what is ENDED", 0, 6, 2, 0, 3);
        due("end PARTY 4", x.end(4, 0), BAD);
        due("end END 2", x.end(0, 2), BAD);
        x.hear(1, 1);
        due("end with both", x.end(1, 1), 1);
        due("SESSIONS over", x.count(3), 1);
        due("it HOLDS it still", x.look(0, 0), 0);
    }

    private static void promise21Look() {
        x = new SessionEnds();
        define(0, "!i.&{b:0,d:0}");
        x.open(0, 3, 1);
        due("look HOLDS", x.look(0, 0), 3);
        due("look kind", x.look(1, 1), 2);
        due("look LABELS of a SEND", x.look(0, 2), 0);
        x.say(3, 0, 1);
        due("look LABELS", x.look(0, 2), 10);
        due("look kind of an OFFER", x.look(0, 1), 4);
        due("look: on the line to it", x.look(1, 3), 1);
        due("look: not on that from it", x.look(0, 3), 0);
        x.hear(1, 1);
        due("look: gone off", x.look(1, 3), 0);
        due("look: the most", x.look(1, 4), 1);
        due("look: kind of a CHOOSE", x.look(1, 1), 3);
        x.choose(1, 1, 'd');
        due("look: kind of an END", x.look(1, 1), 0);
        due("look OPEN", x.look(1, 5), 0);
        x.end(1, 1);
        due("look ENDED", x.look(1, 5), 1);
        due("look 6", x.look(0, 6), BAD);
        due("look -1", x.look(0, -1), BAD);
        due("look END 2", x.look(2, 0), BAD);
        due("look END -1", x.look(-1, 0), BAD);
    }

    private static void promise22Blame() {
        x = new SessionEnds();
        define(0, "!i.0");
        x.open(0, 0, 1);
        due("blame: none yet", x.blame(0), STATE);
        due("blame: no CAUSE yet", x.blame(7), STATE);
        due("blame 8: BAD first", x.blame(8), BAD);
        due("blame -1: BAD first", x.blame(-1), BAD);
        x.hear(2, 1);
        blamed("the latest", 2, 1, 1, 1, 1);
        x.say(0, 0, 3);
        blamed("it stays", 2, 1, 1, 1, 1);
        x.take(1, 1);
        blamed("another one", 1, 3, 3, 1, 2, 2);
        due("blame 8", x.blame(8), BAD);
    }

    private static void promise23Plan() {
        x = new SessionEnds();
        due("plan", plan(0, "0!5,15?,03+z,7&,1>15,9."), 6);
        due("plan: left", x.left(0), 6);
        due("plan of one", plan(3, "0."), 1);
        due("plan 999", plan(1, "0!999,0!0,0!007,0!0000999"), 4);
        due("plan of 24", plan(2, many("0.,", 23) + "0."), 24);
        feed("0.");
        due("plan 4", x.plan(4), BAD);
        due("plan -1", x.plan(-1), BAD);
        due("plan BAD leaves the tape", x.count(2), 2);
        due("plan", x.plan(0), 1);
        due("plan empties the tape", x.count(2), 0);
        due("plan: a new one", x.left(0), 1);
    }

    private static void promise23Faults() {
        x = new SessionEnds();
        planFault("", 0);
        planFault("0!1000", 2);
        planFault("0!99999999999999999999", 2);
        planFault("0!0,16.", 4);
        planFault("99?", 0);
        planFault("0>16", 2);
        planFault("0>", 2);
        planFault("003.", 2);
        planFault("123.", 2);
        planFault("0", 1);
        planFault("0!", 2);
        planFault("0!x", 2);
        planFault("0+", 2);
        planFault("0+A", 2);
        planFault("0+ab", 3);
        planFault("0.,", 3);
        planFault("0.;0.", 2);
        planFault("0. ", 2);
        planFault(",0.", 0);
        planFault("0??", 2);
        planFault("0#", 1);
        planFault("0>1.", 3);
        planFault(many("0.,", 24) + "0.", 72);
        planFault(many("0.,", 24) + "%", 72);
        planFault(many("0.,", 24), 72);
        planFault(many("0.,", 23) + "0.0", 71);
        due("a fault leaves no plan", x.left(0), 0);
        plan(0, "0.,0.");
        planFault("0", 1);
        due("a fault leaves the plan", x.left(0), 2);
        due("a fault empties the tape", x.count(2), 0);
    }

    /** The PARTY of each turn, by the document's own words. */
    private static int turns(int seed, int n, int party) {
        int z = seed;
        int many = 0;
        for (int i = 0; i < n; i++) {
            z = z * 1103515245 + 12345;
            if ((z >>> 9) % 4 == party) many++;
        }
        return many;
    }

    private static void promise24Run() {
        x = new SessionEnds();
        due("run 0", x.run(1, 0), BAD);
        due("run 201", x.run(1, 201), BAD);
        due("run -1", x.run(1, -1), BAD);
        define(0, "*x.!i.x");
        x.open(0, 2, 1);
        plan(2, many("0!1,", 23) + "0!2");
        int mine = turns(77, 9, 2);
        due("run: by the draws", x.run(77, 9), Math.min(2, mine));
        due("run: the rest WAITED", x.led(2), Math.max(0, mine - 2));
        due("run: what is left", x.left(2), 24 - Math.min(2, mine));
        x = new SessionEnds();
        define(0, "!i.+{a:?b.!(0).0}");
        define(1, "0");
        x.open(0, 0, 1);
        x.open(1, 0, 3);
        plan(0, "0!5,0+a,0?,0>2,0.");
        plan(1, "1?,1&,1!1,1?,2.,1.");
        due("run: all of both", x.run(-5, 200), 11);
        due("run: done", x.left(0) + x.left(1), 0);
        due("run: ? was a TAKE", x.look(2, 0), 1);
        due("run: ENDED", x.led(5), 3);
        due("run: none still", x.run(9, 200), 0);
    }

    private static void promise24Endings() {
        x = new SessionEnds();
        define(0, "!i.!i.0");
        x.open(0, 0, 1);
        plan(0, "0!5,0?,0!6");
        due("a BREACH ends the PLAN", x.run(3, 200), 1);
        due("a BREACH ends the PLAN: left", x.left(0), 0);
        blamed("of a PLAN", 0, 2, 3, 0, 1, 2);
        plan(0, "0!7,2!1,0.");
        due("an END that is not there ends it", x.run(3, 200), 1);
        due("an END that is not there: left", x.left(0), 0);
        due("it is no STEP", x.led(0), 3);
        plan(0, "0>9,0.");
        due("a GIVE of no END ends it", x.run(3, 200), 0);
        due("a GIVE of no END: left", x.left(0), 0);
        due("it is no STEP", x.led(0), 3);
        plan(2, "0.");
        due("by who HOLDS it not", x.run(3, 200), 0);
        blamed("by who HOLDS it not", 2, 4, 1, 0, 0);
        plan(1, "1?,1?,1?");
        due("hears two", x.run(3, 200), 2);
        blamed("hears at an END", 1, 7, 3, 1, 0, 2);
    }

    private static void promise25And26() {
        x = new SessionEnds();
        due("left 4", x.left(4), BAD);
        due("left -1", x.left(-1), BAD);
        define(0, "!i.!i.!i.?i.0");
        x.open(0, 0, 1);
        plan(1, "1?");
        plan(2, "1?");
        plan(3, "2?");
        plan(0, "0!1");
        due("waiting: an empty line", x.waiting(), 2);
        due("waiting is no STEP", x.led(0), 0);
        x.say(0, 0, 1);
        due("waiting: a LETTER is there", x.waiting(), 0);
        x.say(0, 0, 1);
        due("waiting: a full line", x.waiting(), 1);
        x.size(3);
        due("waiting: room", x.waiting(), 0);
        plan(0, "0!1000".substring(0, 5));
        due("waiting: none by a BREACH", x.waiting(), 0);
        due("left", x.left(0), 1);
        plan(0, "0>5");
        due("waiting: no END to give", x.waiting(), 0);
        due("waiting: no blame", x.blame(0), STATE);
    }

    private static void promise27And28Image() {
        x = new SessionEnds();
        define(0, "!i.!i.!(0).0");
        define(1, "0");
        x.open(0, 0, 1);
        x.open(1, 0, 0);
        x.say(0, 0, 11);
        x.hear(3, 1);
        plan(1, "1?,1?,1?");
        due("image", x.image(), 2);
        due("back at once", x.back(), 2);
        x.say(0, 0, 12);
        x.size(4);
        x.give(0, 0, 2);
        x.end(0, 3);
        x.open(1, 2, 2);
        x.hear(2, 1);
        x.run(5, 200);
        plan(2, "0.");
        define(2, "0");
        feed("!!");
        due("STEPS", x.led(0) > 6 ? 1 : 0, 1);
        due("back", x.back(), 2);
        int[] led = {2, 1, 0, 1, 0, 0};
        for (int what = 0; what < 6; what++) due("back: led " + what, x.led(what), led[what]);
        int[] count = {3, 2, 2, 0, 1, 2, 0};
        for (int what = 0; what < 7; what++) due("back: count " + what, x.count(what), count[what]);
        blamed("back: THE BLAME", 3, 2, 1, 1, 1);
        due("back: the PLAN", x.left(1), 3);
        due("back: no PLAN", x.left(2), 0);
        due("back: the most", x.look(1, 4), 1);
        due("back: who HOLDS", x.look(2, 0), 0);
        due("back: OPEN", x.look(3, 5), 0);
        due("back: no third SESSION", x.look(4, 0), BAD);
        due("back: the LETTER", x.hear(1, 1), 11);
        due("back: STEPS go on", x.led(0), 3);
        due("back again", x.back(), 2);
        due("back again: the LETTER", x.hear(1, 1), 11);
        due("a new image", x.image(), 3);
        due("back to the new one", x.back(), 3);
        due("back: gone off", x.look(1, 3), 0);
    }

    private static void promise29And30() {
        x = new SessionEnds();
        define(0, "!i.!i.!i.0");
        define(3, "0");
        x.open(0, 0, 1);
        x.open(3, 2, 2);
        x.say(0, 0, 1);
        x.say(0, 0, 1);
        x.say(0, 0, 1);
        x.say(1, 0, 1);
        x.end(2, 2);
        x.end(2, 3);
        x.say(4, 0, 0);
        int[] led = {6, 4, 1, 1, 0, 2};
        for (int what = 0; what < 6; what++) due("led " + what, x.led(what), led[what]);
        feed("xyz");
        int[] count = {2, 2, 3, 1, 2, 2, 0};
        for (int what = 0; what < 7; what++) due("count " + what, x.count(what), count[what]);
        due("led 6", x.led(6), BAD);
        due("led -1", x.led(-1), BAD);
        due("count 7", x.count(7), BAD);
        due("count -1", x.count(-1), BAD);
    }
}
