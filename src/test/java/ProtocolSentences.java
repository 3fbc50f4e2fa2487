/** 'Terms', as far as PROTOCOLS and two of them go. */
final class ProtocolSentences extends Sheet {
    private static final String SIX = "a:0,b:0,c:0,d:0,e:0,f:0";

    static void all() {
        texts();
        labels();
        loops();
        numbers();
        brackets();
        blanks();
        nodesCounted();
        faults();
        faultsElse();
        states();
        sameStates();
        spellings();
        duals();
        fits();
        fitsLabels();
        witnesses();
        witnessEnds();
        bounds();
    }

    private static void texts() {
        says("A PROTOCOL P is a text by THE TAPE (200 bytes at most):");
        String six = "+{a:0,b:0,c:0,d:0,e:0,f:0}";
        String all = many("!i.", 8) + "+{a:" + six + ",b:" + six + ",c:" + six + ",d:" + six + ",e:" + six + ",f:" + six + "}";
        feed(all);
        due("200 bytes", x.count(2), 200);
        due("the 201st", x.feed('0'), FULL);
        due("a PROTOCOL of 200 bytes", x.define(0), 51);
        due("spelt", x.spell(0, -1), 200);
        fresh();
        feed(all.substring(0, 199) + " ");
        due("a fault in the 200th byte", x.define(0), -299);
        fresh();
        feed(all.substring(0, 199) + ",");
        due("too early at 200 bytes, or no seventh LABEL", x.define(0), -299);

        says("0 (the END);");
        nodes("0", 1);
        due("kind", x.ask(0, 4), 0);
        fault("00", 1);
        fault("0.0", 1);
        fault("1", 0);
        fault("/", 0);

        says("!T.P (SEND);");
        nodes("!i.0", 2);
        due("kind", x.ask(0, 4), 1);
        nodes("!b.0", 2);
        nodes("!(0).0", 3);
        fault("!i0", 2);
        fault("!i,0", 2);
        fault("!.0", 1);
        fault("!0", 1);
        fault("!!i.0", 1);
        fault("\"i.0", 0);

        says("?T.P (TAKE);");
        nodes("?i.0", 2);
        due("kind", x.ask(0, 4), 2);
        nodes("?b.0", 2);
        nodes("?(0).0", 3);
        fault("?b0", 2);
        fault("?.0", 1);
        fault("?i.)", 3);

        says("+{l:P,l:P} (CHOOSE), &{l:P,l:P} (OFFER),");
        nodes("+{a:0,b:0}", 3);
        due("kind", x.ask(0, 4), 3);
        nodes("&{a:0,b:0}", 3);
        due("kind", x.ask(0, 4), 4);
        fault("+a:0}", 1);
        fault("+(a:0)", 1);
        fault("&.0", 1);
        fault("+{a0}", 3);
        fault("+{a.0}", 3);
        fault("&{a:0;b:0}", 5);
        fault("&{a:0b:0}", 5);
        fault("&{a:0)", 5);
        fault("+{a:0,}", 6);
        fault("+{,a:0}", 2);
        fault("+{0}", 2);
        fault("+{!i.0}", 2);
        fault("+{+{a:0}}", 2);
        fault("+{a:}", 4);
        fault("+{a:0}0", 6);
        fault("+{a:0}.0", 6);
        fault("+{a:0}}", 6);
    }

    private static void labels() {
        says("LABELS are letters a .. z.");
        for (char label = 'a'; label <= 'z'; label++) {
            nodes("+{" + label + ":0}", 2);
            due("bits of " + label, x.ask(0, 5), 1 << label - 'a');
        }
        fault("+{`:0}", 2);
        fault("+{{:0}", 2);
        fault("+{A:0}", 2);
        fault("+{Z:0}", 2);
        fault("&{0:0}", 2);
        fault("&{" + (char) 225 + ":0}", 2);

        says("of 1 to 6 LABELS l,");
        fault("+{}", 2);
        fault("&{}", 2);
        nodes("+{a:0}", 2);
        nodes("&{a:0}", 2);
        nodes("+{" + SIX + "}", 7);
        nodes("&{" + SIX + "}", 7);
        due("bits of six", x.ask(0, 5), 63);
        fault("+{" + SIX + ",g:0}", 25);
        fault("&{" + SIX + ",g:0}", 25);
        fault("+{" + SIX, 25);
        nodes("+{a:&{" + SIX + "},b:&{" + SIX + "}}", 15);

        says("none twice;");
        fault("+{a:0,a:0}", 6);
        nodes("+{a:0,b:0}", 3);
        nodes("+{a:+{a:0,b:0},b:&{b:0,a:0}}", 7);
    }

    private static void loops() {
        says("*x.P (a LOOP, x a letter);");
        nodes("*a.!i.a", 3);
        nodes("*z.!i.z", 3);
        nodes("*x.0", 2);
        nodes("*x.*x.*x.0", 4);
        fault("*`.0", 1);
        fault("*{.0", 1);
        fault("*X.0", 1);
        fault("*1.0", 1);
        fault("*.0", 1);
        fault("*0", 1);
        fault("*!i.0", 1);
        fault("**x.0", 1);
        fault("*+{a:0}", 1);
        fault("*x0", 2);
        fault("*x,0", 2);
        fault("*xy.0", 2);
        // The letters of T and of LABELS may be those of LOOPS, too.
        nodes("*i.!i.i", 3);
        nodes("*b.?b.b", 3);
        nodes("*a.+{a:a,b:*b.!b.b}", 6);
        fault("*i.!i.b", 6);
        fault("*i.!ii", 5);

        says("x (AGAIN: the innermost LOOP of that letter around it begins anew).");
        alike("*x.!i.*x.?b.x", "!i.*y.?b.y", 1);
        alike("*x.!i.*x.?b.x", "*y.!i.?b.y", 0);
        alike("*x.!i.*y.?b.x", "*z.!i.?b.z", 1);
        alike("*x.?b.+{a:*x.!i.x,b:x}", "*y.?b.+{a:*z.!i.z,b:y}", 1);
        alike("*x.?b.+{a:*x.!i.x,b:x}", "*y.?b.+{a:*z.!i.z,b:*w.!i.w}", 0);
        alike("*x.!i.*y.?i.*x.!b.+{a:x,b:y}", "!i.*y.?i.*q.!b.+{a:q,b:y}", 1);

        says("which has its own LOOPS: none from around the brackets).");
        fault("*x.!(x).0", 5);
        fault("*x.!i.?(!i.x).x", 11);
        fault("*x.!(*y.!i.x).x", 11);
        nodes("*x.!(*x.!i.x).x", 6);
        alike("*x.!(*x.!i.x).x", "*y.!(*z.!i.z).y", 1);
        fault("!(*x.!i.x).x", 11);
        fault("*x.!(*y.!i.y).y", 14);
        nodes("*x.!(*y.!i.y).x", 6);
    }

    private static void numbers() {
        says("T: i (a number 0 .. 999),");
        talks("!i.!i.!i.!i.!i.!i.0");
        x.open(0, 0, 1);
        due("say -1", x.say(0, 0, -1), BREACH);
        due("say 1000", x.say(0, 0, 1000), BREACH);
        due("say the least", x.say(0, 0, Integer.MIN_VALUE), BREACH);
        due("say the greatest", x.say(0, 0, Integer.MAX_VALUE), BREACH);
        due("say 0", x.say(0, 0, 0), 1);
        due("say 999", x.say(0, 0, 999), 1);
        due("hear 0", x.hear(1, 1), 0);
        due("hear 999", x.hear(1, 1), 999);
        fault("!I.0", 1);
        fault("!1.0", 1);

        says("b (0 or 1),");
        talks("!b.!b.!b.0");
        x.open(0, 0, 1);
        due("say -1", x.say(0, 0, -1), BREACH);
        due("say 2", x.say(0, 0, 2), BREACH);
        due("say 999", x.say(0, 0, 999), BREACH);
        due("say 0", x.say(0, 0, 0), 1);
        due("say 1", x.say(0, 0, 1), 1);
        due("hear 0", x.hear(1, 1), 0);
        due("hear 1", x.hear(1, 1), 1);
        fault("!B.0", 1);
        fault("!a.0", 1);
        fault("!c.0", 1);

        says("(P) (an end of a session with that P,");
        nodes("!(?i.0).0", 4);
        fault("!().0", 2);
        fault("!(i).0", 2);
        fault("!(0.0", 3);
        fault("!(0}.0", 3);
        fault("!(0)0", 4);
        fault("!(0))", 4);
        fault("(0)", 0);
    }

    private static void brackets() {
        says("At most 8 of { and ( are open at once.");
        nodes(many("!(", 8) + "0" + many(").0", 8), 17);
        nodes(many("+{a:", 8) + "0" + many("}", 8), 9);
        nodes(many("+{a:?(", 4) + "0" + many(").0}", 4), 13);
        nodes("!(0)." + many("?(", 8) + "0" + many(").0", 8), 19);
        nodes("+{a:0,b:" + many("&{a:", 7) + "0" + many("}", 8), 10);
        nodes("+{a:" + many("&{a:", 7) + "0" + many("}", 7) + ",b:" + many("&{a:", 7) + "0" + many("}", 8), 17);
        nodes(many("!(", 7) + "!(0).!(0).0" + many(").0", 7), 19);

        says("of what would be a ninth open one;");
        fault(many("!(", 9) + "0" + many(").0", 9), 17);
        fault(many("+{a:", 9) + "0" + many("}", 9), 33);
        fault(many("&{a:", 8) + "?(0).0" + many("}", 8), 33);
        fault(many("!(", 8) + "+{a:0}" + many(").0", 8), 17);
        fault(many("!(", 8) + "+", 17);
        fault(many("!(", 8) + "!", 17);
        fault(many("!(", 9), 17);
        fault(many("+{a:?(", 4) + "&{a:0}" + many(").0}", 4), 25);
        nodes(many("!(", 8) + "!i.0" + many(").0", 8), 18);

        says("Braces and brackets count together;");
        nodes(many("!(+{a:", 4) + "0" + many("}).0", 4), 13);
        fault(many("!(+{a:", 4) + "!(0).0" + many("}).0", 4), 25);
        fault(many("!(+{a:", 4) + "+{a:0}" + many("}).0", 4), 25);

        says("a LOOP around a bracket does not count within it.");
        fault("*x.!i.!(x).x", 8);
        fault("*x.!i.!(?i.x).x", 11);
        fault("*x.!i.!(?i.!(x).0).x", 13);
        fault("*x.!i.!(*y.?i.!(y).0).x", 16);
        nodes("*x.!i.!(*x.?i.x).x", 7);
    }

    private static void blanks() {
        says("No blanks.");
        String text = "*x.+{a:!i.?(0).x,b:&{c:0}}";
        nodes(text, 8);
        for (int i = 0; i <= text.length(); i++) {
            fault(text.substring(0, i) + " " + text.substring(i), i);
        }
        fault("\t0", 0);
        fault("0\n", 1);
        fault("!\ri.0", 1);
        planFault("0!1, 0!2", 4);
        planFault("0! 1", 2);
        planFault("0 !1", 1);
        planFault(" 0!1", 0);
        planFault("0!1 ", 3);
    }

    private static void nodesCounted() {
        says("NODES: its END, SEND, TAKE, CHOOSE, OFFER, LOOP, AGAIN, those in brackets, too;");
        nodes("0", 1);
        nodes("!i.0", 2);
        nodes("?i.0", 2);
        nodes("+{a:0}", 2);
        nodes("&{a:0}", 2);
        nodes("*x.0", 2);
        nodes("*x.!i.x", 3);
        nodes("!(0).0", 3);
        nodes("?(*x.!i.x).0", 5);
        due("ask", x.ask(0, 0), 5);

        says("60 at most.");
        nodes(many("!i.", 59) + "0", 60);
        nodes("*x." + many("?b.", 58) + "x", 60);
        nodes(many("!i.", 58) + "*x.0", 60);
        nodes(many("!i.", 58) + "+{a:0}", 60);
        nodes(many("!i.", 57) + "&{a:0,b:0}", 60);
        nodes(many("!i.", 57) + "!(0).0", 60);
        nodes("?(" + many("!i.", 57) + "0).0", 60);
        due("ask", x.ask(0, 0), 60);
        due("NODES outside", x.ask(0, 1), 2);

        says("of what would be a 61st NODE,");
        fault(many("!i.", 60) + "0", 180);
        fault(many("?i.", 60) + "!", 180);
        fault("*x." + many("?b.", 59) + "x", 180);
        fault(many("!i.", 59) + "*x.0", 180);
        fault(many("!i.", 59) + "+{a:0}", 181);
        fault(many("!i.", 58) + "+{a:0,b:0}", 182);
        fault(many("!i.", 58) + "!(0).0", 179);
        fault("?(" + many("!i.", 58) + "0).0", 179);
        fault(many("!i.", 60), 180);
    }

    private static void faults() {
        says("FAULT: the place (from 0) of an x that has no LOOP,");
        fault("x", 0);
        fault("a", 0);
        fault("z", 0);
        fault("!i.x", 3);
        fault("*y.!i.x", 6);
        fault("+{a:x}", 4);
        fault("+{a:*x.!i.x,b:x}", 14);
        fault("*x.!(!i.x).x", 8);

        says("of one that would begin its LOOP anew with nothing but LOOPS since,");
        fault("*x.x", 3);
        fault("*x.*y.x", 6);
        fault("*x.*y.y", 6);
        fault("*x.*x.x", 6);
        fault("*x.*y.*z.x", 9);
        fault("*x.!i.*y.y", 9);
        fault("*x.!i.*x.x", 9);
        fault("*x.+{a:*x.x}", 10);
        fault("+{a:0,b:*x.x}", 11);
        fault("!(*x.x).0", 5);
        nodes("*x.!i.*y.x", 4);
        nodes("*x.?i.x", 3);
        nodes("*x.+{a:x}", 3);
        nodes("*x.&{a:x}", 3);
        nodes("*x.*y.&{a:x,b:y}", 5);
        nodes("*x.?(0).x", 4);

        says("of a LABEL that came before in these braces,");
        fault("&{a:0,b:0,a:0}", 10);
        fault("&{a:0,b:0,b:0}", 10);
        fault("+{b:&{a:0,b:0},b:0}", 15);
        fault("+{b:&{a:0,a:0},b:0}", 10);
        fault("+{a:0,b:0,c:0,d:0,e:0,e:0}", 22);
        fault("+{z:0,y:0,z", 10);
        nodes("+{b:&{a:0,b:0},a:0}", 5);
    }

    private static void faultsElse() {
        says("else of the first byte with which no PROTOCOL goes on;");
        fault("%", 0);
        fault("X", 0);
        fault("}", 0);
        fault(".", 0);
        fault("" + (char) 1, 0);
        fault("" + (char) 255, 0);
        fault("0" + (char) 176, 1);
        fault("!i.%", 3);
        fault("!i.0%", 4);
        fault("!x.0", 1);
        fault("+{" + SIX + ",a:0}", 25);

        says("the length, if it ends too early.");
        String text = "*x.+{a:!(?i.0).x,b:&{c:?b.0}}";
        nodes(text, 9);
        for (int i = 0; i < text.length(); i++) fault(text.substring(0, i), i);
        fault(many("!i.", 59), 177);
        fault(many("!i.", 59) + "!", 178);
        fault(many("!(", 8) + "0", 17);
        fault("*x.!i", 5);

        says("a text is looked at from the left, and the first place that can't be so is the FAULT, whatever stands behind it.");
        fault("+{a:0,a:%", 6);
        fault("x%%%", 0);
        fault("%x", 0);
        fault("*x.x%", 3);
        fault("!i.!i.%+{a:0,a:0}", 6);
        fault(many("!i.", 60) + "%%", 180);
        fault(many("!(", 9) + "%", 17);
        fault("+{a:x,a:0}", 4);
        fault("+{a:0,a:x}", 6);
        planFault("16!1000", 0);
        planFault("0!1000,16.", 2);
        planFault("0.,16!1,%", 3);
        planFault("%,16.", 0);
        planFault("0>16%", 2);
    }

    private static void states() {
        says("STATES are NODES that are neither LOOP nor AGAIN: these stand for the STATE that is behind.");
        talks("*x.*y.!i.+{a:x,b:y,c:0}");
        due("NODES", x.ask(0, 0), 7);
        due("STATES", x.ask(0, 1), 3);
        due("the kind behind LOOPS", x.ask(0, 4), 1);
        x.open(0, 0, 1);
        x.say(0, 0, 1);
        x.choose(0, 0, 'b');
        due("behind an AGAIN", x.look(0, 1), 1);

        says("A PROTOCOL begins with a STATE; behind a SEND, TAKE, a LABEL there is one.");
        talks("*x.!i.*y.*z.?b.*w.+{a:*v.x,b:*u.0}");
        due("the beginning", x.ask(0, 4), 1);
        due("STATES", x.ask(0, 1), 4);
        x.open(0, 0, 1);
        x.say(0, 0, 1);
        due("behind a SEND", x.look(0, 1), 2);
        x.hear(1, 1);
        x.say(1, 1, 1);
        due("behind a SEND of the other", x.look(1, 1), 4);
        x.hear(0, 0);
        due("behind a TAKE", x.look(0, 1), 3);
        x.choose(0, 0, 'a');
        due("behind a LABEL", x.look(0, 1), 1);
        due("OFFERED", x.offered(1, 1), 'a');
        due("behind a LABEL of the other", x.look(1, 1), 2);
    }

    private static void sameStates() {
        says("Two STATES are SAME, if what can ever be done from both is alike: both of one kind,");
        alike("0", "0", 1);
        alike("0", "!i.0", 0);
        alike("!i.0", "?i.0", 0);
        alike("+{a:0}", "&{a:0}", 0);
        alike("+{a:0}", "0", 0);
        alike("*x.0", "0", 1);

        says("T alike (i, b, or both brackets with SAME STATES at their beginnings),");
        alike("!i.0", "!b.0", 0);
        alike("?i.0", "?(0).0", 0);
        alike("!b.0", "!(0).0", 0);
        alike("!i.0", "!i.0", 1);
        alike("?b.0", "?b.0", 1);
        alike("!(0).0", "!(0).0", 1);
        alike("!(*x.!i.x).0", "!(!i.*y.!i.y).0", 1);
        alike("?(*x.!i.x).0", "?(!i.*y.!b.y).0", 0);
        alike("!(+{a:0}).0", "!(+{a:0,b:0}).0", 0);
        alike("?(?(!i.0).0).0", "?(?(!b.0).0).0", 0);

        says("the same LABELS, and SAME ones behind.");
        alike("+{a:0,b:0}", "+{a:0}", 0);
        alike("&{a:0,b:0}", "&{a:0,c:0}", 0);
        alike("+{a:!i.0,b:0}", "+{b:0,a:!i.0}", 1);
        alike("+{a:!i.0,b:0}", "+{a:0,b:!i.0}", 0);
        alike("!i.!i.0", "!i.0", 0);
        alike("?i.!i.?i.0", "?i.!i.?b.0", 0);
        alike("*x.!i.?b.x", "!i.*y.?b.!i.y", 1);
        alike("*x.!i.!i.x", "*y.!i.!i.!i.y", 1);
        alike("*x.!i.!i.x", "*y.!i.!i.!b.y", 0);
        alike("*x.&{a:x,b:0}", "&{b:0,a:*y.&{a:&{a:y,b:0},b:0}}", 1);
    }

    private static void spellings() {
        says("SPELLING: the text; LABELS in braces by letters.");
        talks("*x.!i.?b.x", "&{z:0,m:*q.!b.q,a:+{d:0,c:?i.0}}", "!(+{b:0,a:!i.0}).0", "+{f:0,e:0,d:0,c:0,b:0,a:0}");
        spelt(0, "*x.!i.?b.x");
        spelt(1, "&{a:+{c:?i.0,d:0},m:*q.!b.q,z:0}");
        spelt(2, "!(+{a:!i.0,b:0}).0");
        spelt(3, "+{a:0,b:0,c:0,d:0,e:0,f:0}");
        fresh();
        talks("*x.*y.+{c:x,b:*x.!i.x,a:y}", "0", "*z.0");
        spelt(0, "*x.*y.+{a:y,b:*x.!i.x,c:x}");
        spelt(1, "0");
        spelt(2, "*z.0");
        for (String text : new String[] {many("!(", 8) + "?b.0" + many(").0", 8), many("+{m:", 8) + "!i.0" + many("}", 8),
            many("&{z:!(", 4) + "!b.0" + many(").0}", 4), many("!(+{y:", 4) + "?i.0" + many("}).0", 4),
            many("?i.", 59) + "0", "*x." + many("!b.", 58) + "x", many("*x.", 59) + "0"}) {
            fresh();
            talks(text);
            spelt(0, text);
        }
    }

    private static void duals() {
        says("DUAL: SEND and TAKE, CHOOSE and OFFER change places; what is in brackets stays.");
        talks("*x.!i.?b.+{b:x,a:&{c:0}}", "!(?i.!b.+{a:&{a:0}}).?(?(!i.0).!i.0).0", "0");
        for (int k = 0; k < 3; k++) x.dual(k, k + 5);
        spelt(5, "*x.?i.!b.&{a:+{c:0},b:x}");
        spelt(6, "?(?i.!b.+{a:&{a:0}}).!(?(!i.0).!i.0).0");
        spelt(7, "0");
        x.dual(6, 8);
        spelt(8, "!(?i.!b.+{a:&{a:0}}).?(?(!i.0).!i.0).0");
        fresh();
        talks(many("?(", 8) + "!i.0" + many(").0", 8), many("+{m:", 8) + "!i.0" + many("}", 8));
        x.dual(0, 0);
        x.dual(1, 1);
        spelt(0, "!(" + many("?(", 7) + "!i.0" + many(").0", 8));
        spelt(1, many("&{m:", 8) + "?i.0" + many("}", 8));
    }

    private static void fits() {
        says("P FITS Q (who follows P may stand where Q is wanted), by STATES: END and END;");
        fit("0", "0", 1, 1);
        fit("0", "!i.0", 0, 0);
        fit("0", "?i.0", 0, 0);
        fit("0", "+{a:0}", 0, 0);
        fit("0", "&{a:0}", 0, 0);
        fit("!i.0", "?i.0", 0, 0);
        fit("+{a:0}", "&{a:0}", 0, 0);

        says("SEND of T and SEND of U (T is U, or T is (A), U is (B), and B FITS A),");
        fit("!i.0", "!i.0", 1, 1);
        fit("!b.0", "!b.0", 1, 1);
        fit("!i.0", "!b.0", 0, 0);
        fit("!i.0", "!(0).0", 0, 0);
        fit("!b.0", "!(0).0", 0, 0);
        fit("!(!i.0).0", "!(!i.0).0", 1, 1);
        fit("!(+{a:0,b:0}).0", "!(+{a:0}).0", 1, 0);
        fit("!(&{a:0}).0", "!(&{a:0,b:0}).0", 1, 0);
        fit("!(!(+{a:0}).0).0", "!(!(+{a:0,b:0}).0).0", 1, 0);
        fit("!i.!b.0", "!i.!i.0", 0, 0);

        says("TAKE of T and TAKE of U (T is U, or T is (A), U is (B), and A FITS B), and what is behind FITS;");
        fit("?i.0", "?i.0", 1, 1);
        fit("?i.0", "?b.0", 0, 0);
        fit("?b.0", "?(0).0", 0, 0);
        fit("?(+{a:0}).0", "?(+{a:0,b:0}).0", 1, 0);
        fit("?(&{a:0,b:0}).0", "?(&{a:0}).0", 1, 0);
        fit("?(!(+{a:0,b:0}).0).0", "?(!(+{a:0}).0).0", 1, 0);
        fit("?(?(+{a:0}).0).0", "?(?(+{a:0,b:0}).0).0", 1, 0);
        fit("?i.?i.0", "?i.0", 0, 0);
        fit("?i.+{a:0}", "?i.+{a:0,b:0}", 1, 0);
        fit("!i.+{a:0}", "!i.+{a:0,b:0}", 1, 0);
        fit("?(0).+{a:0}", "?(0).+{a:0,b:0}", 1, 0);
    }

    private static void fitsLabels() {
        says("CHOOSE and CHOOSE, each LABEL of the first is one of the second, and what is behind each of these FITS;");
        fit("+{a:0}", "+{a:0}", 1, 1);
        fit("+{a:0}", "+{a:0,b:0}", 1, 0);
        fit("+{a:0,b:0}", "+{a:0,c:0}", 0, 0);
        fit("+{a:0}", "+{b:0}", 0, 0);
        fit("+{a:!i.0}", "+{a:!b.0,b:0}", 0, 0);
        fit("+{b:0}", "+{a:!i.0,b:0,c:?i.0}", 1, 0);
        fit("+{a:0,c:!i.0}", "+{a:0,b:0,c:!i.0}", 1, 0);
        fit("+{a:0,c:!i.0}", "+{a:0,b:!i.0,c:0}", 0, 0);

        says("OFFER and OFFER, each LABEL of the second is one of the first, and what is behind each of these FITS.");
        fit("&{a:0}", "&{a:0}", 1, 1);
        fit("&{a:0,b:0}", "&{a:0}", 1, 0);
        fit("&{a:0,b:0}", "&{a:0,c:0}", 0, 0);
        fit("&{a:0}", "&{b:0}", 0, 0);
        fit("&{a:!i.0,b:0}", "&{a:!b.0}", 0, 0);
        fit("&{a:!i.0,b:0,c:?i.0}", "&{b:0}", 1, 0);
        fit("&{a:0,b:0,c:!i.0}", "&{a:0,c:!i.0}", 1, 0);
        fit("&{a:+{a:0},b:0}", "&{a:+{a:0,b:0}}", 1, 0);

        says("(Whatever goes round in LOOPS without ever a hindrance FITS.)");
        fit("*x.!i.x", "*y.!i.!i.y", 1, 1);
        fit("*x.!i.x", "*y.!i.!b.y", 0, 0);
        fit("*x.+{a:x}", "*y.+{a:+{a:y,b:0},b:y}", 1, 0);
        fit("*x.!(*y.?i.y).x", "*x.!(*y.?i.?i.y).!(*z.?i.z).x", 1, 1);
        fit("*x.!(*y.?i.y).x", "*x.!(*y.?i.?b.y).!(*z.?i.z).x", 0, 0);
        fit("*x.&{a:x,b:*y.!i.y}", "*x.&{a:&{a:x}}", 1, 0);
        fit("!(0).*z.?i.0", "*y.!(0).y", 0, 0);
        fit("*y.?(0).y", "?(0).*z.!i.0", 0, 0);
        // What is come to again and again doesn't hide what is come to late.
        String round = "*x.+{a:x,b:x,c:x,d:x,e:x,f:" + many("!i.", 20);
        fit(round + "0}", round + "0}", 1, 1);
        fit(round + "!i.0}", round + "!b.0}", 0, 0);
        alike(round + "!i.0}", round + "!i.0}", 1);
        alike(round + "!i.0}", round + "!b.0}", 0);
        hindered(round + "!i.0}", round + "!b.0}", "f" + many(".", 20) + "2");
    }

    private static void witnesses() {
        says("WITNESS of a P that FITS not Q: a row of steps, as short as can be, of such ones the first by its bytes:");
        hindered("0", "0", "");
        hindered("+{a:?i.?i.0,b:?i.0}", "+{a:?i.?b.0,b:?b.0}", "b2");
        hindered("+{b:!b.0,a:?b.0}", "+{b:!i.0,a:?i.0}", "a2");
        hindered("+{a:+{b:0,c:!i.0},b:+{a:0}}", "+{a:+{b:0,c:!b.0},b:+{a:!i.0}}", "ac2");
        hindered("+{a:+{d:0},b:+{c:0}}", "+{a:+{d:!i.0},b:+{c:!i.0}}", "ad1");
        hindered("*x.!i.!i.x", "*x.!i.!i.!i.!b.x", "...2");
        hindered("*x.+{a:x,b:!i.0}", "*x.+{a:+{a:x,b:!b.0},b:!i.0}", "ab2");
        hindered("&{a:!i.!i.0,b:!i.0,c:0}", "&{a:!i.!b.0,b:!b.0}", "b2");
        // Of 13 SENDS the last one hinders the last one of 17: both come at once behind 13 * 17 - 1.
        fresh();
        talks("*x." + many("!(+{a:0,b:0}).", 12) + "!(+{a:0}).x", "*x." + many("!(+{a:0}).", 16) + "!(+{a:0,b:0}).x");
        due("a long one", x.witness(0, 1, -1), 221);
        due("its first", x.witness(0, 1, 0), '.');
        due("its last but one", x.witness(0, 1, 219), '.');
        due("its last", x.witness(0, 1, 220), 2);
        due("behind its last", x.witness(0, 1, 221), NOT);

        says(". (behind a SEND or TAKE of both) or a LABEL that both have;");
        hindered("!i.0", "!i.!i.0", ".1");
        hindered("?i.0", "?i.!i.0", ".1");
        hindered("!(0).0", "!(0).?i.0", ".1");
        hindered("?(+{a:0}).0", "?(+{a:0,b:0}).?i.0", ".1");
        hindered("+{a:0,c:0}", "+{a:0,b:!i.0,c:!i.0}", "c1");
        hindered("&{a:0,b:!i.0,c:0}", "&{c:!i.0}", "c1");
        hindered("!i.&{z:?b.+{m:0}}", "!i.&{z:?b.+{m:!i.0}}", ".z.m1");
    }

    private static void witnessEnds() {
        says("then at the two STATES there: 1, if they are of unlike kinds;");
        hindered("0", "!i.0", "1");
        hindered("!i.0", "?i.0", "1");
        hindered("!i.0", "?b.0", "1");
        hindered("+{a:0}", "&{b:0}", "1");
        hindered("+{a:0}", "!i.0", "1");

        says("2, if their T hinder;");
        hindered("!i.0", "!b.?i.0", "2");
        hindered("?i.0", "?(0).0", "2");
        hindered("!(+{a:0}).0", "!(+{a:0,b:0}).0", "2");
        hindered("!(+{a:0,b:0}).0", "!(+{a:0}).0", "");
        hindered("?(+{a:0,b:0}).0", "?(+{a:0}).0", "2");
        hindered("?(+{a:0}).0", "?(+{a:0,b:0}).0", "");
        hindered("?(!i.!i.!i.0).0", "?(!i.!i.!b.0).0", "2");

        says("3, if their LABELS do.");
        hindered("+{a:0,b:0}", "+{a:0}", "3");
        hindered("+{a:0}", "+{b:0,c:0}", "3");
        hindered("&{a:0}", "&{a:0,b:0}", "3");
        hindered("+{a:0,b:0}", "+{a:!i.0}", "3");
        hindered("!i.&{a:0}", "!i.&{b:0}", ".3");

        says("The last byte of a WITNESS is part of it, and counts in BLAME 7.");
        talks("!i.!i.0", "!i.!b.0", "0", "!(!i.0).!(!i.!b.0).0");
        due("how many", x.witness(0, 1, -1), 2);
        due("the last one", x.witness(0, 1, 1), 2);
        due("behind it", x.witness(0, 1, 2), NOT);
        due("one alone", x.witness(0, 2, -1), 1);
        due("one alone", x.witness(0, 2, 0), 1);
        x.open(3, 0, 1);
        x.open(2, 0, 0);
        x.open(0, 0, 0);
        x.give(0, 0, 2);
        blamed(0, 1, 5, 0, 2, 1, 1);
        x.give(0, 0, 4);
        blamed(0, 2, 5, 0, 4, 1, 2);
    }

    private static void bounds() {
        says("BOUND: the most SENDS and CHOOSES (side 0), TAKES and OFFERS (1), that come one behind another on any way "
            + "from the beginning on;");
        bounds("0", 0, 0);
        bounds("!i.0", 1, 0);
        bounds("?i.0", 0, 1);
        bounds("+{a:0}", 1, 0);
        bounds("&{a:0}", 0, 1);
        bounds("!i.+{a:!b.0,b:!b.!b.0}", 4, 0);
        bounds("?i.&{a:?b.?b.0,b:?b.0}", 0, 4);
        bounds("!i.?i.!i.!i.?i.0", 2, 1);
        bounds("*x.!i.!i.?b.x", 2, 1);
        bounds("*x.!i.?i.?i.!i.x", 2, 2);
        bounds("*x.!i.+{a:?b.x,b:*y.!b.?i.y}", 3, 1);
        bounds("!(!i.!i.!i.0).?(?i.?i.?i.0).0", 1, 1);
        bounds("!i.*x.!i.*y.!i.+{a:?i.x,b:?i.y}", 4, 1);
        bounds(many("!i.", 59) + "0", 59, 0);
        bounds("*x." + many("?i.", 57) + "!i.x", 1, 57);

        says("without an end, if a way goes round through such alone.");
        bounds("*x.!i.x", NOT, 0);
        bounds("*x.?i.x", 0, NOT);
        bounds("*x.+{a:x,b:?i.0}", NOT, 1);
        bounds("*x.&{a:!i.0,b:x}", 1, NOT);
        bounds("?i.?i.*x.+{a:!i.x,b:?i.x}", NOT, 2);
        bounds("*x.!i.*y.+{a:?i.x,b:!i.y}", NOT, 1);
        bounds("!(*x.!i.x).0", 1, 0);
        bounds("*x." + many("!i.", 58) + "x", NOT, 0);
        bounds("*x." + many("!i.", 57) + "?i.x", 57, 1);
    }
}
