/** The order of answers, 'SO THAT NOTHING IS READ TWO WAYS', and the promises, call by call. */
final class CallSentences extends Sheet {
    private static final int[] NO_PROTOCOLS = {-1, 16, 3, Integer.MIN_VALUE, Integer.MAX_VALUE};

    static void all() {
        constants();
        order();
        nothingChanges();
        memory();
        tapeStays();
        noProtocols();
        newObject();
        feeds();
        defines();
        dualCalls();
        spells();
        asks();
        sameAndFits();
        witnessCalls();
        boundCalls();
        meetCalls();
        opens();
        sizes();
        sayAndHear();
        chooseAndOffered();
        giveAndTake();
        endCalls();
        looks();
        blames();
        plans();
        runs();
        leftAndWaiting();
        imageAndBack();
        leds();
        counts();
    }

    private static void constants() {
        says("public static final int BAD = -1, NOT = -2, FULL = -3, WAITS = -4, STATE = -5, BREACH = -6;");
        due("BAD", SessionEnds.BAD, -1);
        due("NOT", SessionEnds.NOT, -2);
        due("FULL", SessionEnds.FULL, -3);
        due("WAITS", SessionEnds.WAITS, -4);
        due("STATE", SessionEnds.STATE, -5);
        due("BREACH", SessionEnds.BREACH, -6);

        says("An object is used for at most 512 calls after it has been made; what later calls answer is free.");
        feed("*x.!i.x");
        x.define(0);
        x.open(0, 0, 1);
        for (int i = 0; i < 250; i++) {
            due("say " + i, x.say(0, 0, i), 1);
            due("hear " + i, x.hear(1, 1), i);
        }
        due("call 510", x.led(0), 500);
        due("call 511", x.hear(1, 1), WAITS);
        due("call 512", x.led(2), 1);
    }

    private static void order() {
        says("Answers, of several the one named first: BAD (-1): no such number, or it is not as said; NOT (-2); FULL (-3); "
            + "WAITS (-4); STATE (-5); BREACH (-6).");
        due("blame(8): BAD ahead of STATE", x.blame(8), BAD);
        due("blame(-1): BAD ahead of STATE", x.blame(-1), BAD);
        talks("0", "!i.0");
        due("witness: BAD ahead of NOT", x.witness(0, 0, -2), BAD);
        due("witness of none: BAD ahead of NOT", x.witness(0, 3, 9), BAD);
        due("bound: BAD ahead of NOT", x.bound(3, 0), BAD);
        for (int s = 0; s < 8; s++) x.open(0, 0, 0);
        due("open none: BAD ahead of FULL", x.open(3, 0, 0), BAD);
        due("open with 4: BAD ahead of FULL", x.open(0, 4, 0), BAD);
        due("open with -1: BAD ahead of FULL", x.open(0, 0, -1), BAD);
        due("FULL alone", x.open(0, 0, 0), FULL);
        feed(many("0", 200));
        due("feed: BAD ahead of FULL", x.feed(0), BAD);
        due("feed: BAD ahead of FULL", x.feed(256), BAD);
        due("feed: FULL alone", x.feed(1), FULL);
        due("say: BAD ahead of BREACH", x.say(4, 0, 0), BAD);
        due("give: BAD ahead of BREACH", x.give(1, 0, 16), BAD);
    }

    private static void nothingChanges() {
        says("What is answered so changes nothing, but STEPS, THE BLAME, what LED tells.");
        talks("!i.!i.!i.0", "*x.!i.x", "0");
        x.open(0, 0, 1);
        x.say(0, 0, 7);
        x.say(2, 0, 7);
        plan(1, "1?,1?");
        feed("ab");
        String before = seen();
        String ledBefore = told();
        int[] answers = {x.back(), x.feed(0), x.define(16), x.dual(3, 0), x.dual(0, 16), x.spell(0, 99), x.ask(0, 6), x.same(0, 3),
            x.fits(3, 0), x.witness(0, 0, 0), x.bound(1, 0), x.meet(0, 1, 3, 0), x.open(0, 4, 0), x.size(0), x.say(0, 9, 0),
            x.hear(4, 1), x.choose(0, -1, 97), x.offered(0, 2), x.give(0, 0, 2), x.take(-1, 0), x.end(4, 4), x.look(2, 0),
            x.blame(8), x.plan(4), x.run(0, 0), x.left(4), x.led(6), x.count(7)};
        for (int i = 0; i < answers.length; i++) due("refused, " + i, answers[i] < 0 ? 1 : 0, 1);
        same("what is seen", seen(), before);
        same("what is told", told(), ledBefore);
        x.say(0, 0, 8);
        before = seen();
        due("WAITS", x.say(0, 0, 9), WAITS);
        due("BREACH", x.hear(0, 0), BREACH);
        same("what is seen", seen(), before);
        due("STEPS", x.led(0), 5);
        due("THE BLAME", x.blame(1), 5);
        spelt(0, "!i.!i.!i.0");
    }

    private static void memory() {
        says("All memory is the class's own.");
        talks("!i.!i.0", "0");
        x.open(0, 0, 1);
        x.say(0, 0, 1);
        plan(0, "0!2");
        x.image();
        SessionEnds first = x;
        fresh();
        due("no PROTOCOLS of another's", x.count(0), 0);
        due("no SESSIONS of another's", x.count(1), 0);
        due("no image of another's", x.back(), STATE);
        due("no plan of another's", x.left(0), 0);
        talks("?b.0");
        x.open(0, 2, 2);
        x.image();
        due("its own still", first.hear(1, 1), 1);
        due("its own still", first.back(), 1);
        due("its own still", first.look(0, 0), 0);
        due("its own still", first.ask(0, 0), 3);
    }

    private static void tapeStays() {
        says("What leaves THE TAPE as it is (BAD, FULL, STATE, where it is said) is looked at ahead of the text on it, in the "
            + "order of the list of answers;");
        feed("%%");
        due("define 16", x.define(16), BAD);
        due("define -1", x.define(-1), BAD);
        due("plan 4", x.plan(4), BAD);
        due("plan -1", x.plan(-1), BAD);
        due("back", x.back(), STATE);
        due("feed 0", x.feed(0), BAD);
        due("bytes", x.count(2), 2);
        due("then the text", x.define(0), -100);
        due("no bytes", x.count(2), 0);
        feed("0.");
        due("plan 4", x.plan(4), BAD);
        due("bytes", x.count(2), 2);
        due("plan", x.plan(0), 1);
        feed(many("!i.", 66) + "0%");
        due("feed to a full one", x.feed('0'), FULL);
        due("define 16", x.define(16), BAD);
        due("bytes", x.count(2), 200);
        due("then the text", x.define(0), -280);
    }

    private static void noProtocols() {
        says("---- protocols (16 of them, none at first; one that is none: BAD).");
        for (int k = 0; k < 16; k++) due("none at first", x.ask(k, 0), BAD);
        for (int k = 0; k < 16; k++) due("define " + k, define(k, "0"), 1);
        for (int k = 0; k < 16; k++) due("there", x.ask(k, 0), 1);
        due("how many", x.count(0), 16);
        for (int k : new int[] {-1, 16, Integer.MIN_VALUE, Integer.MAX_VALUE}) {
            feed("0");
            due("define " + k, x.define(k), BAD);
            due("dual into " + k, x.dual(0, k), BAD);
        }
        fresh();
        talks("0");
        for (int k : NO_PROTOCOLS) {
            due("dual of " + k, x.dual(k, 1), BAD);
            due("spell of " + k, x.spell(k, -1), BAD);
            for (int what = -1; what < 7; what++) due("ask of " + k, x.ask(k, what), BAD);
            due("same of " + k, x.same(k, 0), BAD);
            due("same with " + k, x.same(0, k), BAD);
            due("fits of " + k, x.fits(k, 0), BAD);
            due("fits with " + k, x.fits(0, k), BAD);
            due("witness of " + k, x.witness(k, 0, -1), BAD);
            due("witness with " + k, x.witness(0, k, -1), BAD);
            due("bound of " + k, x.bound(k, 0), BAD);
            due("meet of " + k, x.meet(k, 0, 1, 0), BAD);
            due("meet with " + k, x.meet(0, k, 1, 0), BAD);
            due("open of " + k, x.open(k, 0, 0), BAD);
        }
        due("how many", x.count(0), 1);
        due("no SESSION", x.count(1), 0);
    }

    private static void newObject() {
        says("No protocols, no sessions.");
        due("PROTOCOLS", x.count(0), 0);
        due("SESSIONS", x.count(1), 0);
        due("SIZE", x.count(5), 2);
        for (int what = 0; what < 7; what++) if (what != 5) due("count " + what, x.count(what), 0);
        for (int what = 0; what < 6; what++) due("led " + what, x.led(what), 0);
        for (int what = 0; what < 5; what++) due("blame " + what, x.blame(what), STATE);
        for (int end = 0; end < 16; end++) due("look " + end, x.look(end, 0), BAD);
        for (int party = 0; party < 4; party++) due("left " + party, x.left(party), 0);
        due("waiting", x.waiting(), 0);
        due("say", x.say(0, 0, 0), BAD);
    }

    private static void feeds() {
        says("A byte (1 .. 255) comes to THE TAPE: how many it has. BAD, FULL.");
        for (int letter : new int[] {0, -1, 256, 256 + '0', Integer.MIN_VALUE, Integer.MAX_VALUE}) {
            due("feed " + letter, x.feed(letter), BAD);
        }
        due("none of these came", x.count(2), 0);
        due("feed 1", x.feed(1), 1);
        due("feed 255", x.feed(255), 2);
        for (int i = 3; i < 201; i++) due("feed", x.feed(i), i);
        due("a full one", x.feed(48), FULL);
        due("a full one", x.count(2), 200);
    }

    private static void defines() {
        says("THE TAPE becomes PROTOCOL k (0 .. 15), and is empty then: how many NODES; -100 less the FAULT. BAD (THE TAPE "
            + "stays).");
        due("define 0", define(0, "!i.!i.0"), 3);
        due("define 15", define(15, "0"), 1);
        due("an empty tape then", x.count(2), 0);
        feed("!i.");
        due("nothing stays behind it", x.define(1), -103);
        due("an empty tape by a FAULT too", x.count(2), 0);
        due("none by a FAULT", x.ask(1, 0), BAD);
        due("a FAULT at 0", define(0, "%"), -100);
        due("the old one stays by a FAULT", x.ask(0, 0), 3);
        due("an empty text", x.define(0), -100);
        due("another one", define(0, "?b.0"), 2);
        spelt(0, "?b.0");
        feed("+{a:0}");
        due("define 16", x.define(16), BAD);
        due("THE TAPE stays", x.count(2), 6);
        due("define 14", x.define(14), 2);
    }

    private static void dualCalls() {
        says("PROTOCOL into (0 .. 15) becomes the DUAL of PROTOCOL k: how many NODES. BAD.");
        talks("!i.!i.0", "0");
        due("into 0 itself", x.dual(0, 0), 3);
        spelt(0, "?i.?i.0");
        due("into one that is there", x.dual(1, 0), 1);
        spelt(0, "0");
        define(1, "*x.+{a:x}");
        due("into 0", x.dual(1, 0), 3);
        due("into 15", x.dual(1, 15), 3);
        spelt(15, "*x.&{a:x}");
        spelt(1, "*x.+{a:x}");
        due("into 16", x.dual(1, 16), BAD);
        due("into -1", x.dual(1, -1), BAD);
        due("of none", x.dual(2, 15), BAD);
        due("how many", x.count(0), 3);
        spelt(15, "*x.&{a:x}");
        fresh();
        talks("*x." + many("!b.", 58) + "x");
        due("of 60 NODES", x.dual(0, 1), 60);
        due("a DUAL of 60 NODES", x.bound(1, 1), NOT);
    }

    private static void spells() {
        says("Byte i of the SPELLING of PROTOCOL k (NOT: it has fewer); i -1: how many. BAD.");
        talks("!i.0", "0");
        int[] signs = {'!', 'i', '.', '0'};
        for (int i = 0; i < 4; i++) due("byte " + i, x.spell(0, i), signs[i]);
        due("byte 4", x.spell(0, 4), NOT);
        due("byte 200", x.spell(0, 200), NOT);
        due("the greatest", x.spell(0, Integer.MAX_VALUE), NOT);
        due("how many", x.spell(0, -1), 4);
        due("byte -2", x.spell(0, -2), BAD);
        due("the least", x.spell(0, Integer.MIN_VALUE), BAD);
        due("of one byte", x.spell(1, -1), 1);
        due("behind it", x.spell(1, 1), NOT);
        due("of none", x.spell(2, 0), BAD);
        due("of none", x.spell(2, -2), BAD);
    }

    private static void asks() {
        says("Of PROTOCOL k: NODES (what 0),");
        talks("*x.!(?i.0).+{a:x,b:0}");
        due("NODES", x.ask(0, 0), 7);
        due("what 6", x.ask(0, 6), BAD);
        due("what -1", x.ask(0, -1), BAD);

        says("STATES that can be come to from its beginning, not by brackets (1),");
        talks("*x.!(?i.0).+{a:x,b:0}", "*x.*y.0", "?(!i.!i.!i.0).0");
        due("not LOOPS, not brackets", x.ask(0, 1), 3);
        due("one", x.ask(1, 1), 1);
        due("not brackets", x.ask(2, 1), 2);

        says("how many unlike ones of these, SAME ones being one (2),");
        talks("+{a:0,b:0,c:!i.0}", "*x.!i.*y.!i.x", "!i.!b.!(0).!(?i.0).0", "*x.!(*y.!i.y).!(*z.!i.!i.z).x",
            "*x.!(+{a:0}).!(+{a:0,b:0}).x", "+{a:+{a:0},b:+{a:0,b:0}}", "!i.0", "&{a:!i.0,b:!i.0,c:?i.0}", "0");
        int[] unlike = {3, 1, 5, 1, 2, 4, 2, 4, 1};
        for (int k = 0; k < 9; k++) due("of " + k, x.ask(k, 2), unlike[k]);

        says("how many brackets are open at once at the most (3),");
        String[] texts = {"0", "!(0).0", "!(0).!(0).0", "!(!(0).0).0", "!(0).?(!(?(0).0).0).0", "+{a:+{b:!(0).0}}"};
        int[] open = {0, 1, 1, 2, 3, 1};
        talks(texts);
        for (int k = 0; k < 6; k++) due("of " + texts[k], x.ask(k, 3), open[k]);
        due("define", define(6, many("!(", 8) + "0" + many(").0", 8)), 17);
        due("eight", x.ask(6, 3), 8);

        says("ask(.., 3) counts ( alone.");
        talks("+{a:&{b:+{c:0}}}", "+{a:!(&{b:?(0).0}).0}");
        due("braces alone", x.ask(0, 3), 0);
        due("both", x.ask(1, 3), 2);

        says("the kind with which it begins (4; as in THE BLAME), LABELS there (5; bits, a is 1). BAD.");
        talks("0", "!i.0", "?(0).0", "+{a:0,c:0}", "&{z:0,b:0}", "*x.*y.+{d:x}", "!i.+{a:0}");
        int[] kinds = {0, 1, 2, 3, 4, 3, 1};
        int[] bits = {0, 0, 0, 5, 2 + (1 << 25), 8, 0};
        for (int k = 0; k < 7; k++) due("kind of " + k, x.ask(k, 4), kinds[k]);
        for (int k = 0; k < 7; k++) due("bits of " + k, x.ask(k, 5), bits[k]);
    }

    private static void sameAndFits() {
        says("Whether two begin with SAME STATES (1, 0). BAD.");
        talks("*x.!i.x", "!i.!i.*y.!i.y", "!b.0", "+{b:0}");
        due("SAME", x.same(0, 1), 1);
        due("SAME the other way", x.same(1, 0), 1);
        due("not", x.same(0, 2), 0);
        due("with itself", x.same(3, 3), 1);
        due("with none", x.same(3, 4), BAD);
        due("of none", x.same(4, 3), BAD);

        says("Whether PROTOCOL j FITS PROTOCOL k (1, 0). BAD.");
        talks("+{a:0}", "+{a:0,b:0}");
        due("j FITS k", x.fits(0, 1), 1);
        due("k FITS j", x.fits(1, 0), 0);
        due("itself", x.fits(1, 1), 1);
        due("with none", x.fits(0, 2), BAD);
        due("of none", x.fits(2, 0), BAD);
    }

    private static void witnessCalls() {
        says("Byte i of the WITNESS (its last one is the number 1, 2 or 3; NOT: it has fewer); i -1: how many; NOT: j FITS k. "
            + "BAD.");
        talks("!i.+{b:!i.0}", "!i.+{b:!b.0,c:0}", "!i.+{b:0}", "!i.&{b:0}");
        due("how many", x.witness(0, 1, -1), 3);
        due("byte 0", x.witness(0, 1, 0), '.');
        due("byte 1", x.witness(0, 1, 1), 'b');
        due("byte 2", x.witness(0, 1, 2), 2);
        due("byte 3", x.witness(0, 1, 3), NOT);
        due("the greatest", x.witness(0, 1, Integer.MAX_VALUE), NOT);
        due("a shorter one then", x.witness(1, 0, -1), 2);
        due("its last", x.witness(1, 0, 1), 3);
        due("behind it", x.witness(1, 0, 2), NOT);
        due("unlike kinds", x.witness(2, 3, 1), 1);
        due("it FITS", x.witness(0, 0, -1), NOT);
        due("it FITS", x.witness(0, 0, 0), NOT);
        due("byte -2", x.witness(0, 1, -2), BAD);
        due("the least", x.witness(0, 1, Integer.MIN_VALUE), BAD);
        due("byte -2 of what FITS", x.witness(0, 0, -2), BAD);
        due("with none", x.witness(0, 4, -1), BAD);
        due("of none", x.witness(4, 0, -1), BAD);
    }

    private static void boundCalls() {
        says("BOUND of PROTOCOL k for a side (0, 1); NOT: without an end. BAD.");
        talks("!i.?i.?i.0", "*x.!i.x");
        due("side 0", x.bound(0, 0), 1);
        due("side 1", x.bound(0, 1), 2);
        due("without an end", x.bound(1, 0), NOT);
        due("none of these", x.bound(1, 1), 0);
        due("side 2", x.bound(0, 2), BAD);
        due("side -1", x.bound(0, -1), BAD);
        due("BAD ahead of NOT", x.bound(1, 2), BAD);
    }

    private static void meetCalls() {
        says("MEETING of j and k by lines of n: PLACES (what 0), JAMS (1), CLASHES (2), the fewest moves to one of these (3; "
            + "NOT: none), the most LETTERS on one line at any PLACE (4). BAD; FULL: there are more than 3000 PLACES.");
        talks("!i.!i.0", "?i.?i.0", "+{a:!i.0,b:!b.!b.0}", "&{a:?i.?i.0,b:?b.?i.0}");
        int[] good = {6, 0, 0, NOT, 2};
        for (int what = 0; what < 5; what++) due("what " + what, x.meet(0, 1, 2, what), good[what]);
        // By a: 2 LETTERS sent and 2 taken lead to a JAM; by b: 3 sent and 2 taken to a CLASH.
        int[] both = {13, 1, 1, 4, 2};
        for (int what = 0; what < 5; what++) due("a JAM and a CLASH, what " + what, x.meet(2, 3, 2, what), both[what]);
        due("what 5", x.meet(0, 1, 2, 5), BAD);
        due("what -1", x.meet(0, 1, 2, -1), BAD);
        due("n 0", x.meet(0, 1, 0, 0), BAD);
        due("n 3", x.meet(0, 1, 3, 0), BAD);
        due("none", x.meet(0, 4, 1, 0), BAD);
        met("+{a:!i.!i.0,b:0}", "&{a:?i.?i.?i.0}", 2, 10, 1, 1, 1, 2);
        met("?i.0", "&{a:0}", 1, 1, 1, 0, 0, 0);
        met("!b.0", "?i.0", 1, 2, 0, 1, 1, 1);
    }

    private static void opens() {
        says("A SESSION: PARTY p HOLDS the first END, following PROTOCOL k, PARTY q the second: its number. BAD; FULL: 8.");
        talks("!i.0");
        due("open", x.open(0, 3, 1), 0);
        due("the first END", x.look(0, 0) * 10 + x.look(0, 1), 31);
        due("the second END", x.look(1, 0) * 10 + x.look(1, 1), 12);
        due("of none", x.open(1, 0, 0), BAD);
        due("of 16", x.open(16, 0, 0), BAD);
        due("p 4", x.open(0, 4, 0), BAD);
        due("p -1", x.open(0, -1, 0), BAD);
        due("q 4", x.open(0, 0, 4), BAD);
        due("q -1", x.open(0, 0, -1), BAD);
        for (int s = 1; s < 8; s++) due("open", x.open(0, 0, 0), s);
        due("a ninth", x.open(0, 0, 0), FULL);
        x.end(0, 2);
        due("an ENDED one stays one", x.open(0, 0, 0), FULL);
    }

    private static void sizes() {
        says("SIZE becomes n (1 .. 4): what it was. BAD.");
        due("size 4", x.size(4), 2);
        due("size 1", x.size(1), 4);
        due("size 0", x.size(0), BAD);
        due("size 5", x.size(5), BAD);
        due("size -1", x.size(-1), BAD);
        due("size 1 still", x.count(5), 1);
        due("size 3", x.size(3), 1);

        says("(What lies there stays.)");
        talks("*x.!i.x");
        x.open(0, 0, 1);
        x.size(4);
        for (int i = 0; i < 4; i++) x.say(0, 0, i);
        x.size(1);
        due("four lie there", x.look(1, 3), 4);
        for (int i = 0; i < 4; i++) {
            due("no room", x.say(0, 0, 9), WAITS);
            due("hear", x.hear(1, 1), i);
        }
        due("room", x.say(0, 0, 9), 1);
        due("no more", x.say(0, 0, 9), WAITS);
        x.size(2);
        due("room again", x.say(0, 0, 10), 1);
        due("the most", x.look(1, 4), 4);
    }

    private static void sayAndHear() {
        says("SAY: 1. BAD: no such PARTY, END; BREACH; WAITS.");
        talks("*x.!i.x");
        due("no END", x.say(0, 0, 0), BAD);
        x.open(0, 0, 1);
        due("PARTY 4", x.say(4, 0, 0), BAD);
        due("PARTY -1", x.say(-1, 0, 0), BAD);
        due("END 2", x.say(0, 2, 0), BAD);
        due("END -1", x.say(0, -1, 0), BAD);
        due("another PARTY", x.say(1, 0, 0), BREACH);
        due("1000", x.say(0, 0, 1000), BREACH);
        due("999", x.say(0, 0, 999), 1);
        due("0", x.say(0, 0, 0), 1);
        due("WAITS", x.say(0, 0, 1), WAITS);

        says("HEAR: the number. BAD; BREACH; WAITS.");
        talks("*x.!i.x");
        x.open(0, 0, 1);
        due("PARTY 4", x.hear(4, 1), BAD);
        due("END 2", x.hear(1, 2), BAD);
        due("END -1", x.hear(1, -1), BAD);
        due("WAITS", x.hear(1, 1), WAITS);
        x.say(0, 0, 999);
        x.say(0, 0, 0);
        due("at a SEND", x.hear(0, 0), BREACH);
        due("999", x.hear(1, 1), 999);
        due("0", x.hear(1, 1), 0);
        due("WAITS", x.hear(1, 1), WAITS);
    }

    private static void chooseAndOffered() {
        says("CHOOSE a LABEL (its letter's byte, 97 for a): 1. BAD; BREACH; WAITS.");
        talks("*x.+{a:x,z:x}");
        x.open(0, 0, 1);
        due("PARTY 4", x.choose(4, 0, 'a'), BAD);
        due("END 2", x.choose(0, 2, 'a'), BAD);
        due("b", x.choose(0, 0, 'b'), BREACH);
        due("a", x.choose(0, 0, 97), 1);
        due("z", x.choose(0, 0, 122), 1);
        due("WAITS", x.choose(0, 0, 97), WAITS);
        due("b ahead of WAITS", x.choose(0, 0, 98), BREACH);

        says("OFFERED: the LABEL (its letter's byte). BAD; BREACH; WAITS.");
        talks("*x.+{a:x,z:x}");
        x.open(0, 0, 1);
        due("PARTY 4", x.offered(4, 1), BAD);
        due("END 2", x.offered(1, 2), BAD);
        due("WAITS", x.offered(1, 1), WAITS);
        x.choose(0, 0, 'z');
        x.choose(0, 0, 'a');
        due("at a CHOOSE", x.offered(0, 0), BREACH);
        due("z", x.offered(1, 1), 122);
        due("a", x.offered(1, 1), 97);
        due("WAITS", x.offered(1, 1), WAITS);
    }

    private static void giveAndTake() {
        says("GIVE an END: 1. BAD: no such PARTY, END (the one that is given, too); BREACH; WAITS.");
        talks("*x.!(0).x", "0");
        x.open(0, 0, 1);
        for (int s = 0; s < 3; s++) x.open(1, 0, 0);
        due("PARTY 4", x.give(4, 0, 2), BAD);
        due("PARTY -1", x.give(-1, 0, 2), BAD);
        due("END 8", x.give(0, 8, 2), BAD);
        due("END -1", x.give(0, -1, 2), BAD);
        due("END 8 to be given", x.give(0, 0, 8), BAD);
        due("END 16 to be given", x.give(0, 0, 16), BAD);
        due("END -1 to be given", x.give(0, 0, -1), BAD);
        due("END 8 to be given at a wrong STATE", x.give(0, 2, 8), BAD);
        due("no STEP", x.led(0), 0);
        due("itself", x.give(0, 0, 0), BREACH);
        due("give", x.give(0, 0, 2), 1);
        due("give", x.give(0, 0, 7), 1);
        due("WAITS", x.give(0, 0, 3), WAITS);

        says("TAKE: the END. BAD; BREACH; WAITS.");
        talks("*x.!(0).x", "0");
        x.open(0, 0, 1);
        x.open(1, 0, 0);
        due("PARTY 4", x.take(4, 1), BAD);
        due("END 4", x.take(1, 4), BAD);
        due("END -1", x.take(1, -1), BAD);
        due("WAITS", x.take(1, 1), WAITS);
        x.give(0, 0, 3);
        due("at a SEND", x.take(0, 0), BREACH);
        due("take", x.take(1, 1), 3);
        due("who HOLDS it", x.look(3, 0), 1);
        x.give(0, 0, 2);
        due("END 2", x.take(1, 1), 2);
        due("give what another HOLDS now", x.give(0, 0, 3), BREACH);
        fresh();
        talks("0", "*x.!(0).x");
        for (int s = 0; s < 7; s++) x.open(0, 0, 0);
        x.open(1, 0, 1);
        for (int given = 0; given < 14; given++) {
            due("give " + given, x.give(0, 14, given), 1);
            due("nobody HOLDS " + given, x.look(given, 0), 9);
            due("take " + given, x.take(1, 15), given);
            due("who HOLDS " + given, x.look(given, 0), 1);
        }
    }

    private static void endCalls() {
        says("END: 1. BAD; BREACH.");
        talks("!i.0");
        x.open(0, 0, 1);
        due("PARTY 4", x.end(4, 0), BAD);
        due("END 2", x.end(0, 2), BAD);
        due("END -1", x.end(0, -1), BAD);
        due("at a SEND", x.end(0, 0), BREACH);
        due("at a TAKE", x.end(1, 1), BREACH);
        x.say(0, 0, 1);
        due("by another PARTY", x.end(1, 0), BREACH);
        due("end", x.end(0, 0), 1);
        due("again", x.end(0, 0), BREACH);
        due("how many", x.led(5), 1);
        due("it HOLDS it still", x.look(0, 0), 0);
        due("what lies there stays", x.hear(1, 1), 1);
    }

    private static void looks() {
        says("Of an END: the PARTY that HOLDS it (what 0; 9: nobody), the kind of its STATE (1), LABELS of this (2; bits), how "
            + "many LETTERS lie on the line to it (3), the most that ever lay there (4), whether it is ENDED (5). BAD.");
        talks("!i.!i.+{a:0,z:0}", "!(0).0", "0");
        x.open(0, 3, 1);
        x.open(1, 0, 0);
        x.open(2, 0, 0);
        due("HOLDS", x.look(0, 0), 3);
        due("kind", x.look(0, 1), 1);
        due("LABELS", x.look(0, 2), 0);
        x.say(3, 0, 1);
        x.say(3, 0, 1);
        due("kind", x.look(0, 1), 3);
        due("LABELS", x.look(0, 2), 1 + (1 << 25));
        due("on the line to it", x.look(1, 3), 2);
        x.hear(1, 1);
        due("on the line to it then", x.look(1, 3), 1);
        due("the most", x.look(1, 4), 2);
        due("the most on the other", x.look(0, 4), 0);
        due("LABELS of a TAKE", x.look(1, 2), 0);
        x.hear(1, 1);
        due("LABELS of an OFFER", x.look(1, 2), 1 + (1 << 25));
        due("kind of an OFFER", x.look(1, 1), 4);
        x.give(0, 2, 4);
        due("nobody", x.look(4, 0), 9);
        x.end(0, 5);
        due("ENDED", x.look(5, 5), 1);
        due("not ENDED", x.look(4, 5), 0);
        due("what 6", x.look(0, 6), BAD);
        due("what -1", x.look(0, -1), BAD);
        due("END 6", x.look(6, 0), BAD);
        due("END -1", x.look(-1, 0), BAD);
    }

    private static void blames() {
        says("THE BLAME: PARTY (what 0), STEP (1), number (2), END (3), how many CAUSES (4), the first, second, third CAUSE (5, "
            + "6, 7; NOT: there are fewer). BAD; STATE: no BREACH yet.");
        talks("!(0).0", "!i.0");
        x.open(0, 0, 1);
        x.open(1, 0, 1);
        for (int what = 0; what < 5; what++) due("no BREACH yet, " + what, x.blame(what), STATE);
        x.end(2, 1);
        blamed(2, 1, 1, 1, 1);
        x.end(1, 1);
        blamed(1, 2, 3, 1, 2, 0);
        x.give(0, 0, 2);
        blamed(0, 3, 5, 0, 2, 1, 1);
        x.give(0, 0, 3);
        blamed(0, 4, 4, 0, 3);
        due("what 8", x.blame(8), BAD);
        due("what -1", x.blame(-1), BAD);
    }

    private static void plans() {
        says("THE TAPE becomes the PLAN of a PARTY (from its first ACT on), and is empty then: how many ACTS; -100 less the "
            + "FAULT. BAD (THE TAPE stays).");
        talks("*x.!i.x");
        x.open(0, 0, 1);
        due("plan", plan(0, "0!1,0!2,0!3"), 3);
        due("an empty tape", x.count(2), 0);
        x.size(4);
        for (int seed = 0; seed < 20 && x.left(0) == 3; seed++) x.run(seed, 1);
        due("one done", x.left(0), 2);
        due("a FAULT", plan(0, "0!1,"), -104);
        due("an empty tape by a FAULT too", x.count(2), 0);
        due("the old one stays by a FAULT", x.left(0), 2);
        due("a FAULT at 0", plan(0, "%"), -100);
        due("an empty text", x.plan(0), -100);
        due("a new one", plan(0, "0!7,0!8"), 2);
        due("from its first ACT on", x.left(0), 2);
        due("run", x.run(1, 100), 2);
        int[] heard = {1, 7, 8};
        for (int one : heard) due("heard", x.hear(1, 1), one);
        feed("0!");
        due("nothing stays behind it", x.plan(1), -102);
        feed("0!9");
        due("plan 4", x.plan(4), BAD);
        due("plan -1", x.plan(-1), BAD);
        due("THE TAPE stays", x.count(2), 3);
        due("plan 3", x.plan(3), 1);
        due("plans are each PARTY's own", x.left(0) + x.left(1) + x.left(2), 0);
    }

    private static void runs() {
        says("RUN for n turns (1 .. 200): how many ACTS were done (neither WAITED nor were a BREACH). BAD.");
        talks("*x.!i.x");
        x.open(0, 0, 1);
        due("run 0", x.run(1, 0), BAD);
        due("run 201", x.run(1, 201), BAD);
        due("run 1", x.run(1, 1), 0);
        due("run 200", x.run(1, 200), 0);
        plan(0, "0!1,0!2,0!3");
        plan(2, "0!1,0!1");
        due("done", x.run(1, 200), 2);
        due("done by the object", x.led(1), 2);
        due("BREACHES", x.led(3), 1);
        due("it WAITED", x.led(2) > 0 ? 1 : 0, 1);
        due("left of who WAITS", x.left(0), 1);
        plan(1, "1?,1!1,1?");
        due("done then", x.run(1, 200), 2);
        due("BREACHES then", x.led(3), 2);
        due("left", x.left(0) + x.left(1) + x.left(2), 0);
        due("run -1", x.run(1, -1), BAD);
        due("the greatest", x.run(1, Integer.MAX_VALUE), BAD);
        due("the least", x.run(1, Integer.MIN_VALUE), BAD);
    }

    private static void leftAndWaiting() {
        says("How many ACTS of its PLAN a PARTY has to do still (none: 0). BAD.");
        due("none", x.left(0), 0);
        due("left 4", x.left(4), BAD);
        due("left -1", x.left(-1), BAD);
        plan(3, many("0.,", 23) + "0.");
        due("24", x.left(3), 24);
        due("of another", x.left(2), 0);

        says("PARTIES that have an ACT to do still that would WAIT now (bits).");
        talks("!i.!i.!i.!(0).0", "+{a:+{a:+{a:0}}}", "0");
        due("none", x.waiting(), 0);
        x.open(0, 0, 1);
        x.open(1, 3, 2);
        plan(1, "1?,1?");
        due("an empty line", x.waiting(), 2);
        plan(2, "3&");
        due("two of them", x.waiting(), 6);
        plan(0, "0!1,0!1,0!1");
        due("room", x.waiting(), 6);
        x.say(0, 0, 1);
        due("no empty line", x.waiting(), 4);
        x.say(0, 0, 1);
        due("a full line", x.waiting(), 5);
        x.choose(3, 2, 'a');
        x.choose(3, 2, 'a');
        plan(3, "2+a");
        due("a full line, too", x.waiting(), 9);
        plan(3, "2+b");
        due("none by a BREACH", x.waiting(), 1);
        plan(3, "0!1");
        due("none by a BREACH of who HOLDS", x.waiting(), 1);
        plan(3, "9?");
        due("none of no END", x.waiting(), 1);
        due("no STEPS", x.led(0), 4);
        x.hear(1, 1);
        x.say(0, 0, 1);
        x.open(2, 0, 0);
        plan(0, "0>4");
        due("GIVE", x.waiting(), 1);
        plan(0, "0>7");
        due("GIVE of no END", x.waiting(), 0);
        plan(0, "4.");
        due("END never", x.waiting(), 0);
        fresh();
        talks("!(0).0");
        x.open(0, 0, 1);
        plan(1, "1?");
        due("TAKE", x.waiting(), 2);
    }

    private static void imageAndBack() {
        says("AN IMAGE is kept: STEPS.");
        due("at first", x.image(), 0);
        talks("*x.!i.x");
        x.open(0, 0, 1);
        x.say(0, 0, 1);
        x.hear(0, 0);
        due("image", x.image(), 2);

        says("It is laid back: STEPS. STATE: there is none.");
        due("none", x.back(), STATE);
        talks("*x.!i.x");
        x.open(0, 0, 1);
        x.say(0, 0, 1);
        due("none still", x.back(), STATE);
        due("nothing changed", x.led(0), 1);
        x.image();
        x.say(0, 0, 2);
        due("back", x.back(), 1);
        due("back again", x.back(), 1);
        due("what lies there", x.look(1, 3), 1);
        x.say(0, 0, 3);
        due("back once more", x.back(), 1);
        due("what is heard", x.hear(1, 1), 1);
        due("no more", x.hear(1, 1), WAITS);
        fresh();
        x.image();
        talks("0");
        x.open(0, 0, 0);
        due("back to nothing", x.back(), 0);
        due("no SESSIONS", x.count(1), 0);
        due("open once more", x.open(0, 1, 2), 0);
        due("as new", x.look(0, 0) * 10 + x.look(1, 0), 12);
    }

    private static void leds() {
        says("So far: STEPS (what 0), ACTS done (1), that WAITED (2), BREACHES (3), ENDS given (4), ENDED (5). BAD.");
        talks("!i.!i.!i.!(0).0", "0");
        x.open(0, 0, 1);
        x.open(1, 0, 0);
        int[] told = new int[6];
        for (int i = 0; i < 6; i++) due("led " + i, x.led(i), told[i]);
        x.say(0, 0, 1);
        x.say(0, 0, 1);
        x.say(0, 0, 1);
        due("WAITED", x.led(2), 1);
        x.hear(1, 1);
        x.say(0, 0, 1);
        x.hear(1, 1);
        x.give(0, 0, 0);
        x.give(0, 0, 2);
        x.end(0, 3);
        x.end(0, 0);
        x.end(3, 0);
        x.end(4, 0);
        int[] then = {11, 8, 1, 2, 1, 2};
        for (int i = 0; i < 6; i++) due("led " + i, x.led(i), then[i]);
        due("led 6", x.led(6), BAD);
        due("led -1", x.led(-1), BAD);
    }

    private static void counts() {
        says("How many: 0 PROTOCOLS, 1 SESSIONS, 2 bytes on THE TAPE, 3 SESSIONS both of whose ENDS are ENDED, 4 LETTERS on all "
            + "lines, 5 SIZE, 6 ENDS that nobody HOLDS. BAD.");
        talks("!i.!i.!(0).!(0).0", "0");
        x.size(4);
        x.open(0, 0, 1);
        x.open(1, 0, 0);
        x.open(1, 2, 2);
        x.open(1, 0, 0);
        x.dual(0, 9);
        x.end(0, 2);
        x.end(2, 5);
        due("one END alone", x.count(3), 0);
        x.end(2, 4);
        due("both", x.count(3), 1);
        x.end(0, 3);
        x.say(0, 0, 1);
        x.say(0, 0, 1);
        x.give(0, 0, 6);
        feed("abc");
        int[] told = {3, 4, 3, 2, 3, 4, 1};
        for (int i = 0; i < 7; i++) due("count " + i, x.count(i), told[i]);
        x.give(0, 0, 7);
        x.hear(1, 1);
        due("LETTERS", x.count(4), 3);
        due("nobody", x.count(6), 2);
        x.hear(1, 1);
        x.take(1, 1);
        due("LETTERS", x.count(4), 1);
        due("nobody", x.count(6), 1);
        due("count 7", x.count(7), BAD);
        due("count -1", x.count(-1), BAD);
        fresh();
        talks("0");
        for (int s = 0; s < 8; s++) x.open(0, 0, 0);
        for (int end = 0; end < 16; end++) {
            x.end(0, end);
            due("ENDED with " + end, x.count(3), (end + 1) / 2);
        }
        fresh();
        talks("*x.?i.x");
        for (int s = 0; s < 8; s++) {
            x.open(0, 0, 0);
            x.say(0, 2 * s + 1, s);
            due("LETTERS with " + s, x.count(4), s + 1);
        }
        fresh();
        talks("0", "*x.!(0).x");
        for (int s = 0; s < 7; s++) x.open(0, 0, 0);
        x.open(1, 0, 1);
        x.size(4);
        int[] gifts = {0, 13, 1, 12};
        for (int i = 0; i < 4; i++) {
            due("give " + gifts[i], x.give(0, 14, gifts[i]), 1);
            due("nobody HOLDS, with " + gifts[i], x.count(6), i + 1);
        }
    }
}
