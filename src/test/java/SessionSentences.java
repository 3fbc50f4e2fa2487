/** 'Terms', as far as SESSIONS, their ACTS and THE BLAME go. */
final class SessionSentences extends Sheet {
    private static final String[] ACTS = {"end", "say", "hear", "choose", "offered", "give", "take"};
    /** The kinds of STATES that ACTS are for, as THE BLAME tells them. */
    private static final int[] KINDS = {0, 1, 2, 3, 4, 1, 2};

    static void all() {
        ends();
        parties();
        lines();
        steps();
        acts();
        lettersGo();
        breachOrder();
        breachFour();
        breachFive();
        nothingElse();
        waits();
        given();
        blame();
        causes();
    }

    /** Does the ACT of that number; value: what is said, chosen or given. */
    private static int act(int which, int party, int end, int value) {
        switch (which) {
            case 0: return x.end(party, end);
            case 1: return x.say(party, end, value);
            case 2: return x.hear(party, end);
            case 3: return x.choose(party, end, value);
            case 4: return x.offered(party, end);
            case 5: return x.give(party, end, value);
            default: return x.take(party, end);
        }
    }

    private static void ends() {
        says("3 SESSIONS come (8 at most), each with two ENDS, 2 * s and 2 * s + 1;");
        talks("!i.0");
        due("no END yet", x.look(0, 0), BAD);
        for (int s = 0; s < 8; s++) {
            due("open", x.open(0, s % 4, (s + 1) % 4), s);
            due("the first END", x.look(2 * s, 0), s % 4);
            due("the second END", x.look(2 * s + 1, 0), (s + 1) % 4);
            due("no END more", x.look(2 * s + 2, 0), BAD);
        }
        due("a ninth", x.open(0, 0, 0), FULL);
        due("a ninth is none", x.count(1), 8);
        due("END 15", x.say(0, 15, 0), BREACH);
        due("END 16", x.say(0, 16, 0), BAD);

        says("the first follows a PROTOCOL, the second its DUAL.");
        talks("0", "!i.0", "?i.0", "+{a:0,c:0}", "&{b:0}", "!(?i.0).0");
        int[][] kinds = {{0, 0}, {1, 2}, {2, 1}, {3, 4}, {4, 3}, {1, 2}};
        int[] labels = {0, 0, 0, 5, 2, 0};
        for (int k = 0; k < 6; k++) {
            x.open(k, 0, 1);
            for (int i = 0; i < 2; i++) due("kind of " + (2 * k + i), x.look(2 * k + i, 1), kinds[k][i]);
            for (int i = 0; i < 2; i++) due("LABELS of " + (2 * k + i), x.look(2 * k + i, 2), labels[k]);
        }

        says("Each END has a STATE, and is OPEN (at first) or ENDED.");
        talks("0");
        x.open(0, 0, 0);
        due("OPEN", x.look(0, 5), 0);
        due("OPEN", x.look(1, 5), 0);
        x.end(0, 1);
        due("the other is OPEN", x.look(0, 5), 0);
        due("ENDED", x.look(1, 5), 1);
        due("its STATE", x.look(1, 1), 0);
    }

    private static void parties() {
        says("PARTIES 0 .. 3 HOLD ENDS.");
        talks("*x.!i.x");
        for (int party : new int[] {-1, 4, Integer.MIN_VALUE, Integer.MAX_VALUE}) {
            due("open with " + party, x.open(0, party, 0), BAD);
            due("open with " + party, x.open(0, 0, party), BAD);
        }
        for (int party = 0; party < 4; party++) x.open(0, party, 3 - party);
        for (int party = 0; party < 4; party++) {
            due("PARTY " + party, x.look(2 * party, 0), party);
            due("PARTY " + (3 - party), x.look(2 * party + 1, 0), 3 - party);
            due("say", x.say(party, 2 * party, party), 1);
            due("hear", x.hear(3 - party, 2 * party + 1), party);
        }
        for (int which = 0; which < 7; which++) {
            for (int party : new int[] {-1, 4, Integer.MIN_VALUE, Integer.MAX_VALUE}) {
                due(ACTS[which] + " by " + party, act(which, party, 0, 1), BAD);
            }
        }

        says("open(): p and q may be one.");
        talks("!i.0");
        due("open", x.open(0, 2, 2), 0);
        due("the first", x.look(0, 0), 2);
        due("the second", x.look(1, 0), 2);
        due("say", x.say(2, 0, 8), 1);
        due("hear", x.hear(2, 1), 8);
    }

    private static void lines() {
        says("From each END to the other goes a line of SIZE (1 .. 4; 2 at first) LETTERS.");
        for (int size = 0; size < 5; size++) {
            fresh();
            talks(many("!i.", 6) + "0", many("?i.", 6) + "0");
            x.open(0, 0, 1);
            x.open(1, 0, 1);
            if (size > 0) due("size", x.size(size), 2);
            int room = size == 0 ? 2 : size;
            for (int i = 0; i < room; i++) due("from the first", x.say(0, 0, i), 1);
            due("a full one", x.say(0, 0, 9), WAITS);
            for (int i = 0; i < room; i++) due("from the second", x.say(1, 3, 20 + i), 1);
            due("a full one", x.say(1, 3, 9), WAITS);
            due("on the one", x.look(1, 3), room);
            due("on the other", x.look(2, 3), room);
            due("none to who sends", x.look(0, 3) + x.look(3, 3), 0);
            for (int i = 0; i < room; i++) due("hear", x.hear(1, 1), i);
            for (int i = 0; i < room; i++) due("hear", x.hear(0, 2), 20 + i);
            due("an empty one", x.hear(1, 1), WAITS);
        }
        due("size 0", x.size(0), BAD);
        due("size 5", x.size(5), BAD);
    }

    private static void steps() {
        says("ACTS of a PARTY at an END, each a STEP (numbered from 1; a BAD one is none):");
        talks("!i.!i.!i.?i.0");
        x.open(0, 0, 1);
        due("none yet", x.led(0), 0);
        x.say(1, 0, 0);
        due("the first", x.blame(1), 1);
        x.say(0, 0, 0);
        x.say(0, 0, 0);
        x.say(0, 0, 0);
        due("one that WAITS is a STEP", x.led(0), 4);
        x.end(0, 0);
        due("a BREACH is a STEP", x.blame(1), 5);
        for (int which = 0; which < 7; which++) {
            act(which, 4, 0, 1);
            act(which, 0, 2, 1);
            act(which, 0, -1, 1);
        }
        x.give(0, 0, 2);
        due("a BAD one is none", x.led(0), 5);
        x.hear(3, 0);
        due("the next", x.blame(1), 6);
    }

    /** STATES of each sort at ENDS 0, 2, .. 12, a LETTER on each line that is taken from; END 14 may be given. */
    private static void allStates() {
        talks("0", "!i.0", "?i.0", "+{a:0}", "&{a:0}", "!(0).0", "?(0).0");
        for (int k = 0; k < 7; k++) x.open(k, 0, 0);
        x.open(0, 0, 0);
        due("say", x.say(0, 5, 7), 1);
        due("choose", x.choose(0, 9, 'a'), 1);
        due("give", x.give(0, 13, 15), 1);
    }

    private static void acts() {
        says("SAY a number (at a SEND of i, b), HEAR one (at a TAKE of i, b), CHOOSE a LABEL, be OFFERED one, GIVE an END "
            + "(at a SEND of brackets), TAKE one (at a TAKE of brackets), END (at an END: it is ENDED).");
        allStates();
        int[] values = {0, 1, 0, 'a', 0, 14, 0};
        for (int which = 0; which < 7; which++) {
            for (int state = 0; state < 7; state++) {
                if (which == state) continue;
                due(ACTS[which] + " at the STATE of " + ACTS[state], act(which, 0, 2 * state, values[which]), BREACH);
                due("number", x.blame(2), 3);
                due("the STATE's kind", x.blame(5), KINDS[state]);
                due("the ACT's kind", x.blame(6), KINDS[which]);
            }
        }
        int[] answers = {1, 1, 7, 1, 'a', 1, 15};
        for (int which = 0; which < 7; which++) due(ACTS[which], act(which, 0, 2 * which, values[which]), answers[which]);
        for (int which = 0; which < 7; which++) due("ENDED", x.look(2 * which, 5), which == 0 ? 1 : 0);
        fresh();
        talks("!b.?b.0");
        x.open(0, 0, 0);
        due("SAY at a SEND of b", x.say(0, 0, 1), 1);
        due("HEAR at a TAKE of b", x.hear(0, 1), 1);
    }

    private static void lettersGo() {
        says("What is sent goes on the line to the other END; what is heard, offered, taken is the first on the line from it.");
        talks("!i.!i.+{b:!(0).!(0).0}", "0");
        x.open(0, 0, 1);
        x.open(1, 0, 0);
        x.say(0, 0, 11);
        x.say(0, 0, 12);
        due("two lie there", x.look(1, 3), 2);
        due("none the other way", x.look(0, 3), 0);
        due("the first", x.hear(1, 1), 11);
        x.choose(0, 0, 'b');
        due("the second", x.hear(1, 1), 12);
        x.give(0, 0, 3);
        due("then the LABEL", x.offered(1, 1), 'b');
        x.give(0, 0, 2);
        due("the first END", x.take(1, 1), 3);
        due("one lies there", x.look(1, 3), 1);
        due("the second END", x.take(1, 1), 2);
        due("none lies there", x.look(1, 3), 0);

        says("The STATE is the one behind then.");
        talks("+{c:!i.0,a:?i.0,b:&{d:0}}", "!i.?b.+{a:0}", "!(0).+{b:0}", "0");
        for (int i = 0; i < 3; i++) x.open(0, 0, 1);
        int[] kinds = {2, 4, 1};
        for (int i = 0; i < 3; i++) {
            x.choose(0, 2 * i, 'a' + i);
            due("behind " + (char) ('a' + i), x.look(2 * i, 1), kinds[i]);
            due("not yet of the other", x.look(2 * i + 1, 1), 4);
            x.offered(1, 2 * i + 1);
        }
        due("behind a of the other", x.look(1, 1), 1);
        due("behind b of the other", x.look(3, 1), 3);
        due("behind c of the other", x.look(5, 1), 2);
        x.open(1, 0, 1);
        x.say(0, 6, 1);
        due("behind SAY", x.look(6, 1), 2);
        x.hear(1, 7);
        due("behind HEAR", x.look(7, 1), 1);
        x.open(2, 0, 1);
        x.open(3, 0, 0);
        x.give(0, 8, 10);
        due("behind GIVE", x.look(8, 1), 3);
        x.take(1, 9);
        due("behind TAKE", x.look(9, 1), 4);
    }

    private static void breachOrder() {
        says("A BREACH, the first of: 1 the PARTY doesn't HOLD the END; 2 it is ENDED; 3 the ACT is another one than its "
            + "STATE is for;");
        talks("0", "!i.!i.!i.0", "!(!i.0).0");
        x.open(0, 0, 1);
        x.open(1, 0, 1);
        x.open(2, 0, 1);
        x.end(0, 0);
        due("1 alone", x.say(1, 2, 0), BREACH);
        due("number", x.blame(2), 1);
        due("2 alone", x.end(0, 0), BREACH);
        due("number", x.blame(2), 2);
        due("3 alone", x.hear(0, 2), BREACH);
        due("number", x.blame(2), 3);
        x.end(1, 0);
        due("1 ahead of 2", x.blame(2), 1);
        x.hear(1, 2);
        due("1 ahead of 3", x.blame(2), 1);
        x.say(3, 2, 1000);
        due("1 ahead of 4", x.blame(2), 1);
        x.give(1, 4, 3);
        due("1 ahead of 5", x.blame(2), 1);
        x.say(0, 0, 1);
        due("2 ahead of 3", x.blame(2), 2);
        x.say(0, 0, 1000);
        due("2 ahead of 4", x.blame(2), 2);
        x.choose(0, 2, 'a');
        due("3 ahead of 4", x.blame(2), 3);
        x.give(0, 2, 2);
        due("3 ahead of 4 of GIVE", x.blame(2), 3);
        x.give(0, 4, 3);
        due("4 ahead of 5", x.blame(2), 4);
        x.give(0, 4, 0);
        due("4 ahead of 5 by what is ENDED", x.blame(2), 4);
        x.say(0, 2, 1);
        x.say(0, 2, 1);
        due("1 ahead of WAITS", x.say(1, 2, 1), BREACH);
        due("3 ahead of WAITS", x.hear(0, 2), BREACH);
        due("4 ahead of WAITS", x.say(0, 2, 1000), BREACH);
        due("WAITS alone", x.say(0, 2, 999), WAITS);
    }

    private static void breachFour() {
        says("4 the number is none that may be, the LABEL none of its;");
        talks("!i.!b.+{b:0,d:0}");
        x.open(0, 0, 1);
        for (int v : new int[] {-1, 1000, Integer.MIN_VALUE, Integer.MAX_VALUE}) {
            due("say " + v, x.say(0, 0, v), BREACH);
            due("number", x.blame(2), 4);
            due("CAUSE", x.blame(5), v);
        }
        x.say(0, 0, 999);
        for (int v : new int[] {-1, 2, 999}) {
            due("say " + v, x.say(0, 0, v), BREACH);
            due("number", x.blame(2), 4);
        }
        x.say(0, 0, 1);
        x.hear(1, 1);
        for (int label : new int[] {'a', 'c', 'e', 'z', 96, 123, 'B', 'b' + 32, 'b' - 32, 'b' + 256, 0, -1}) {
            due("choose " + label, x.choose(0, 0, label), BREACH);
            due("number", x.blame(2), 4);
            due("CAUSE", x.blame(5), label);
        }
        due("choose d", x.choose(0, 0, 'd'), 1);

        says("the END to be given is the same one, not HELD by the PARTY, or ENDED;");
        talks("!(0).!(0).0", "0");
        x.open(0, 0, 1);
        x.open(1, 0, 1);
        x.open(1, 0, 0);
        due("the same one", x.give(0, 0, 0), BREACH);
        blamed(0, 1, 4, 0, 0);
        due("HELD by another", x.give(0, 0, 3), BREACH);
        blamed(0, 2, 4, 0, 3);
        x.end(0, 2);
        due("ENDED", x.give(0, 0, 2), BREACH);
        blamed(0, 4, 4, 0, 2);
        due("give", x.give(0, 0, 4), 1);
        due("HELD by nobody", x.give(0, 0, 4), BREACH);
        blamed(0, 6, 4, 0, 4);
        due("not there", x.give(0, 0, 6), BAD);
    }

    private static void breachFive() {
        says("5 the P in the brackets doesn't FIT the STATE of the END to be given.");
        talks("!(+{a:0}).!(+{a:0,b:0}).!(&{a:0,b:0}).!(&{a:0}).0", "+{a:0,b:0}", "+{a:0}", "&{a:0,b:0}", "&{a:0}");
        x.size(4);
        x.open(0, 0, 1);
        x.open(1, 0, 1);
        for (int k = 1; k < 5; k++) x.open(k, 0, 1);
        due("of fewer LABELS", x.give(0, 0, 2), 1);
        due("of more LABELS", x.give(0, 0, 6), BREACH);
        blamed(0, 2, 5, 0, 6, 3, 1);
        due("of the same LABELS", x.give(0, 0, 4), 1);
        due("an OFFER of more", x.give(0, 0, 10), 1);
        due("an OFFER of fewer", x.give(0, 0, 8), BREACH);
        blamed(0, 5, 5, 0, 8, 3, 1);

        says("GIVE: the P in the brackets FITS the STATE as it goes on;");
        talks("!(!i.!b.0).!(!b.0).0", "!i.!b.0");
        x.open(0, 0, 1);
        x.open(1, 0, 1);
        x.open(1, 0, 1);
        x.say(0, 2, 1);
        due("it was so at the beginning", x.give(0, 0, 2), BREACH);
        blamed(0, 2, 5, 0, 2, 2, 1);
        due("it is so still", x.give(0, 0, 4), 1);
        due("it is so now", x.give(0, 0, 2), 1);

        says("the other END of the same SESSION may be given.");
        talks("!(?(0).0).0", "!i.!(?i.0).0");
        x.open(0, 0, 0);
        due("by T of what it begins with", x.give(0, 0, 1), BREACH);
        blamed(0, 1, 5, 0, 1, 2, 1);
        x.open(1, 3, 3);
        x.say(3, 2, 1);
        due("by what is behind", x.give(3, 2, 3), BREACH);
        blamed(3, 3, 5, 2, 3, 1, 2);
    }

    private static void nothingElse() {
        says("Nothing else is done then.");
        talks("!(+{a:0}).!b.+{a:0}", "0", "+{a:!i.0,b:0}", "!i.!b.0");
        x.open(0, 0, 1);
        x.open(1, 0, 1);
        x.open(2, 0, 1);
        x.open(3, 0, 1);
        x.end(0, 2);
        String before = seen();
        x.say(2, 6, 1);
        x.end(0, 2);
        x.hear(0, 6);
        x.say(0, 6, 1000);
        x.choose(0, 4, 'c');
        x.give(0, 0, 0);
        x.give(0, 0, 3);
        x.give(0, 0, 2);
        x.give(0, 0, 4);
        x.give(0, 0, 6);
        same("what is seen", seen(), before);
        due("BREACHES", x.led(3), 10);
        due("ACTS done", x.led(1), 1);
        due("ENDS given", x.led(4), 0);
        due("ENDED", x.led(5), 1);
        due("the LABEL b is there still", x.choose(0, 4, 'b'), 1);
    }

    private static void waits() {
        says("Otherwise it WAITS: the line is full, or empty.");
        talks("!i.!i.!i.0", "+{a:+{a:+{a:0}}}", "!(0).!(0).!(0).0", "0", "?i.?i.?i.0");
        for (int k = 0; k < 5; k++) x.open(k, 0, 1);
        x.open(3, 0, 0);
        x.open(3, 0, 0);
        due("hear", x.hear(1, 1), WAITS);
        due("offered", x.offered(1, 3), WAITS);
        due("take", x.take(1, 5), WAITS);
        due("hear at the first END", x.hear(0, 8), WAITS);
        for (int i = 0; i < 2; i++) {
            due("say", x.say(0, 0, i), 1);
            due("choose", x.choose(0, 2, 'a'), 1);
            due("give", x.give(0, 4, 10 + i), 1);
            due("say at the second END", x.say(1, 9, i), 1);
        }
        String before = seen();
        due("say", x.say(0, 0, 2), WAITS);
        due("choose", x.choose(0, 2, 'a'), WAITS);
        due("give", x.give(0, 4, 12), WAITS);
        due("say at the second END", x.say(1, 9, 2), WAITS);
        same("what is seen", seen(), before);
        due("who HOLDS what was to be given", x.look(12, 0), 0);
        due("that WAITED", x.led(2), 8);
        due("BREACHES", x.led(3), 0);
        due("no BREACH", x.blame(2), STATE);
        due("END never WAITS", x.end(0, 6), 1);
        x.hear(1, 1);
        due("room again", x.say(0, 0, 2), 1);
        due("END with a full line", x.end(0, 0), 1);
    }

    private static void given() {
        says("An END that is given is HELD by nobody till it is taken; then by who takes it;");
        talks("!(!i.0).0", "!i.0");
        x.open(0, 0, 2);
        x.open(1, 0, 1);
        due("give", x.give(0, 0, 2), 1);
        due("nobody", x.look(2, 0), 9);
        due("how many", x.count(6), 1);
        for (int party = 0; party < 4; party++) {
            due("say by " + party, x.say(party, 2, 1), BREACH);
            blamed(party, 2 + party, 1, 2, 9);
        }
        due("take by another", x.take(1, 1), BREACH);
        due("take", x.take(2, 1), 2);
        due("who took it", x.look(2, 0), 2);
        due("none", x.count(6), 0);
        due("say by who gave it", x.say(0, 2, 1), BREACH);
        due("say", x.say(2, 2, 77), 1);
        due("heard", x.hear(1, 3), 77);

        says("from the giving on its STATE is that with which the P in the brackets begins.");
        talks("!(*x.+{a:*y.!i.x}).0", "*x.+{a:!i.x,b:0}");
        x.open(0, 0, 0);
        x.open(1, 0, 1);
        due("LABELS", x.look(2, 2), 3);
        x.give(0, 0, 2);
        due("LABELS at once", x.look(2, 2), 1);
        due("kind at once", x.look(2, 1), 3);
        due("the other END's stay", x.look(3, 2), 3);
        x.take(0, 1);
        due("LABELS then", x.look(2, 2), 1);
        due("no b any more", x.choose(0, 2, 'b'), BREACH);
        due("a", x.choose(0, 2, 'a'), 1);
        due("behind it", x.look(2, 1), 1);
        due("say", x.say(0, 2, 1), 1);
        due("round again", x.look(2, 2), 1);
    }

    private static void blame() {
        says("THE BLAME of the latest BREACH: PARTY, STEP, number (1 to 5), END; its CAUSES, one behind another:");
        talks("!i.!i.0");
        x.open(0, 0, 1);
        x.open(0, 2, 3);
        due("none", x.blame(0), STATE);
        x.say(0, 0, 1);
        due("none by an ACT that is done", x.blame(2), STATE);
        x.hear(3, 3);
        due("none by one that WAITS", x.blame(2), STATE);
        x.end(3, 3);
        blamed(3, 3, 3, 3, 2, 0);
        x.say(0, 2, 1);
        blamed(0, 4, 1, 2, 2);
        x.say(2, 2, 1);
        x.say(2, 5, 1);
        blamed(0, 4, 1, 2, 2);
        x.say(2, 2, 5000);
        blamed(2, 6, 4, 2, 5000);
    }

    private static void causes() {
        says("for 1: the PARTY that HOLDS it (nobody: 9).");
        talks("!(0).0", "0");
        x.open(0, 3, 2);
        x.open(1, 3, 1);
        x.end(0, 0);
        blamed(0, 1, 1, 0, 3);
        x.take(1, 1);
        blamed(1, 2, 1, 1, 2);
        x.give(3, 0, 2);
        x.end(3, 2);
        blamed(3, 4, 1, 2, 9);

        says("For 2: the STEP by which it was ENDED.");
        talks("0");
        x.open(0, 0, 1);
        x.open(0, 2, 2);
        x.hear(0, 0);
        x.end(0, 0);
        x.end(2, 3);
        x.end(1, 1);
        x.say(0, 0, 1);
        blamed(0, 5, 2, 0, 2);
        x.end(1, 1);
        blamed(1, 6, 2, 1, 4);
        x.end(2, 3);
        blamed(2, 7, 2, 3, 3);

        says("For 3: the kind of the STATE (0 END, 1 SEND, 2 TAKE, 3 CHOOSE, 4 OFFER), and behind it that of the ACT (as of "
            + "the STATE it would be for).");
        talks("+{a:0}");
        x.open(0, 0, 0);
        int[] ends = {0, 0, 0, 1, 0, 0, 0};
        for (int which = 0; which < 7; which++) {
            act(which, 0, ends[which], 1);
            blamed(0, 1 + which, 3, ends[which], ends[which] == 0 ? 3 : 4, KINDS[which]);
        }

        says("For 4: the number, LABEL (as its letter's byte), END that was told.");
        talks("!i.+{a:0}", "!(0).0");
        x.open(0, 0, 1);
        x.open(1, 0, 1);
        x.say(0, 0, -7);
        blamed(0, 1, 4, 0, -7);
        x.say(0, 0, 0);
        x.choose(0, 0, 'z');
        blamed(0, 3, 4, 0, 122);
        x.give(0, 2, 3);
        blamed(0, 4, 4, 2, 3);

        says("For 5: the END that was told, behind it that last byte of the WITNESS (1, 2, 3), behind this its length.");
        talks("!(!i.&{c:0}).0", "!i.&{c:!i.0}", "!b.0", "!i.&{c:0,d:0}", "!i.&{c:0}");
        for (int k = 0; k < 5; k++) x.open(k, 0, 1);
        x.give(0, 0, 2);
        blamed(0, 1, 5, 0, 2, 1, 3);
        x.give(0, 0, 4);
        blamed(0, 2, 5, 0, 4, 2, 1);
        x.give(0, 0, 6);
        blamed(0, 3, 5, 0, 6, 3, 2);
        due("give", x.give(0, 0, 8), 1);
    }
}
