/** 'Terms', as far as PLANS, RUN and AN IMAGE go. */
final class PlanSentences extends Sheet {
    static void all() {
        texts();
        endNumbers();
        signs();
        gives();
        faults();
        draws();
        turns();
        endings();
        images();
        imageAlone();
    }

    private static void texts() {
        says("A PLAN of a PARTY is a text by THE TAPE: 1 to 24 ACTS, parted by , :");
        planFault("", 0);
        acts("0.", 1);
        acts("0.,0.", 2);
        acts(many("0.,", 22) + "0.", 23);
        acts(many("0.,", 23) + "0.", 24);
        planFault("0.;0.", 2);
        planFault("0.0.", 2);
        planFault("0.,,0.", 3);
        planFault(",0.", 0);
        planFault("0.:", 2);
        acts(many("15!0001,", 23) + "15!000000001", 24);
        fresh();
        feed("0." + many(",0!99", 39) + ",0.");
        due("a text of 200 bytes", x.count(2), 200);
        due("a plan of it", x.plan(0), -100 - (3 + 23 * 5));
    }

    private static void endNumbers() {
        says("an END's number (0 .. 15; 1 or 2 figures), and one of:");
        for (int end = 0; end < 16; end++) acts(end + ".", 1);
        for (int end = 0; end < 10; end++) acts("0" + end + ".", 1);
        for (int end = 16; end < 100; end += 7) planFault(end + ".", 0);
        planFault("99.", 0);
        planFault("007.", 2);
        planFault("000.", 2);
        planFault(".", 0);
        planFault("-1.", 0);
        planFault("a.", 0);
        planFault("/.", 0);
        planFault(":.", 0);
        planFault("00", 2);
        fresh();
        talks("0");
        for (int s = 0; s < 8; s++) x.open(0, 0, 0);
        plan(0, "07.,15.,3.,00.,10.");
        due("run", x.run(1, 200), 5);
        for (int end = 0; end < 16; end++) {
            boolean isNamed = end == 7 || end == 15 || end == 3 || end == 0 || end == 10;
            due("END " + end, x.look(end, 5), isNamed ? 1 : 0);
        }
    }

    private static void signs() {
        says("! and a number (0 .. 999; SAY),");
        acts("0!0", 1);
        acts("0!999", 1);
        planFault("0!1000", 2);
        planFault("0!4294967296", 2);
        planFault("0!18446744073709551616", 2);
        planFault("0!", 2);
        planFault("0!a", 2);
        planFault("0!-1", 2);
        planFault("0!1!", 3);
        fresh();
        talks("!i.!i.!b.0");
        x.open(0, 0, 1);
        plan(0, "0!999,0!0,0!2");
        due("run", x.run(5, 200), 2);
        due("heard", x.hear(1, 1), 999);
        due("heard", x.hear(1, 1), 0);
        due("then", x.run(5, 200), 0);
        blamed(0, x.blame(1), 4, 0, 2);

        says("? (TAKE, if its STATE is a TAKE of brackets, otherwise HEAR),");
        talks("!(0).!i.!(0).+{a:0}", "0");
        x.open(0, 0, 1);
        x.open(1, 0, 0);
        plan(0, "0>2,0!5,0>3");
        plan(1, "1?,1?,1?");
        due("run", x.run(5, 200), 6);
        due("the first taken", x.look(2, 0), 1);
        due("the second taken", x.look(3, 0), 1);
        plan(0, "0?");
        x.run(5, 200);
        due("HEAR at a CHOOSE", x.blame(5) * 10 + x.blame(6), 32);
        plan(1, "1?");
        x.run(5, 200);
        due("HEAR at an OFFER", x.blame(5) * 10 + x.blame(6), 42);
        plan(1, "2?");
        x.run(5, 200);
        due("HEAR at an END", x.blame(5) * 10 + x.blame(6), 2);
        x.open(0, 2, 2);
        plan(2, "4?");
        x.run(5, 200);
        due("HEAR at a SEND of brackets", x.blame(5) * 10 + x.blame(6), 12);
        due("and it is number", x.blame(2), 3);

        says("+ and a letter (CHOOSE), & (be OFFERED),");
        acts("0+a", 1);
        acts("0+z", 1);
        acts("0&", 1);
        planFault("0+", 2);
        planFault("0+A", 2);
        planFault("0+`", 2);
        planFault("0+{", 2);
        planFault("0+ab", 3);
        planFault("0+1", 2);
        planFault("0&a", 2);
        planFault("0*", 1);
        planFault("0/", 1);
        fresh();
        talks("*x.+{a:x,z:0}");
        x.open(0, 0, 1);
        plan(0, "0+a,0+z,0+a");
        due("run", x.run(5, 200), 2);
        due("a CHOOSE at an END", x.blame(6), 3);
        plan(1, "1&");
        due("run", x.run(5, 200), 1);
        due("the next one", x.offered(1, 1), 'z');
    }

    private static void gives() {
        says("> and an END's number (GIVE), . (END).");
        acts("0>0", 1);
        acts("0>15", 1);
        acts("0>07", 1);
        planFault("0>16", 2);
        planFault("0>99", 2);
        planFault("0>", 2);
        planFault("0>a", 2);
        planFault("0>007", 4);
        planFault("0.0", 2);
        fresh();
        talks("!(0).0", "0");
        x.open(0, 0, 1);
        x.open(1, 0, 0);
        plan(0, "0>02,0.,3.,0.");
        due("run", x.run(5, 200), 3);
        due("given", x.take(1, 1), 2);
        due("ENDED", x.look(0, 5) + x.look(3, 5), 2);
        due("not what was given", x.look(2, 5), 0);
        due("END again", x.blame(2), 2);
    }

    private static void faults() {
        says("FAULT: of a number that is too great: where it begins;");
        planFault("16!1", 0);
        planFault("0.,99.", 3);
        planFault("10!1000", 3);
        planFault("0!0,5>16", 6);
        planFault("0!0,15>15,16.", 10);
        planFault("0!99999999999999999999999999999", 2);
        planFault("0!1000%", 2);

        says("of a 25th ACT: where it would begin;");
        planFault(many("0.,", 24) + "0.", 72);
        planFault(many("0.,", 24), 72);
        planFault(many("0.,", 24) + "99.", 72);
        planFault(many("0.,", 24) + "%", 72);
        planFault(many("15.,", 24) + "15.", 96);
        planFault(many("0.,", 23) + "0.%", 71);

        says("otherwise as in 1.");
        planFault("", 0);
        planFault("%", 0);
        planFault("0", 1);
        planFault("0%", 1);
        planFault("0!12,", 5);
        planFault("0!12,1", 6);
        planFault("0!12,15", 7);
        planFault("0!12,15?,3+", 11);
        planFault("0!12,15?,3+a,4>", 15);
        planFault("0!12,15?,3+a,4>5%", 16);
        planFault("0?" + (char) 200, 2);
        planFault("0,1.", 1);
        acts("0!12,15?,3+a,4>5,6&,7.", 6);
    }

    /** Four PARTIES that each say to themselves and hear it, so that no ACT ever WAITS. */
    private static void talkers() {
        fresh();
        talks("*x.!i.x");
        for (int party = 0; party < 4; party++) {
            x.open(0, party, party);
            String pair = 2 * party + "!1," + (2 * party + 1) + "?";
            due("plan", plan(party, pair + "," + pair + "," + pair), 6);
        }
    }

    private static void draws() {
        says("RUN by a SEED for n turns: each turn z = z * 1103515245 + 12345 (an int; SEED at first) and PARTY (z >>> 9) % 4 "
            + "does the next ACT of its PLAN (if it has one still):");
        int[] seeds = {0, 1, -1, 2, 77, 12345, -987654321, 1000000007, Integer.MIN_VALUE, Integer.MAX_VALUE};
        for (int seed : seeds) {
            for (int n = 1; n < 14; n += n < 4 ? 1 : 3) {
                talkers();
                int[] left = {6, 6, 6, 6};
                int sum = 0;
                long z = seed & 0xFFFFFFFFL;
                for (int turn = 0; turn < n; turn++) {
                    z = (z * 1103515245L + 12345L) & 0xFFFFFFFFL;
                    int party = (int) (z / 512 % 4);
                    if (left[party] > 0) {
                        left[party]--;
                        sum++;
                    }
                }
                due("run(" + seed + ", " + n + ")", x.run(seed, n), sum);
                for (int party = 0; party < 4; party++) due("left of " + party, x.left(party), left[party]);
                due("STEPS", x.led(0), sum);
            }
        }
        talkers();
        due("turns of all", x.run(3, 200), 24);
        due("none has one still", x.run(3, 200), 0);
        due("STEPS", x.led(0), 24);
        due("run 0", x.run(3, 0), BAD);
        due("run 201", x.run(3, 201), BAD);
        due("run -1", x.run(3, -1), BAD);
        fresh();
        due("no PLANS", x.run(3, 200), 0);
        due("no STEPS", x.led(0), 0);
    }

    private static void turns() {
        says("if it WAITS, it stays the next;");
        talks("*x.!i.x");
        x.open(0, 0, 1);
        plan(1, "1?,1?");
        due("run", x.run(9, 40), 0);
        int waited = x.led(2);
        due("it WAITED", waited > 1 ? 1 : 0, 1);
        due("each a STEP", x.led(0), waited);
        due("left", x.left(1), 2);
        x.say(0, 0, 5);
        due("run", x.run(9, 40), 1);
        due("left", x.left(1), 1);
        plan(0, "0!1,0!2,0!3,0!4");
        plan(1, "0.");
        x.run(9, 200);
        due("a full line", x.left(0), 2);
        x.size(4);
        due("room again", x.run(9, 200), 2);
    }

    private static void endings() {
        says("by a BREACH the PLAN ends;");
        talks("*x.!i.x", "0");
        x.open(0, 0, 1);
        x.open(1, 0, 0);
        plan(0, "0!1,0!999,0?,0!2,2.");
        due("a plan", x.left(0), 5);
        due("run", x.run(9, 200), 2);
        due("left", x.left(0), 0);
        due("BREACHES", x.led(3), 1);
        due("number", x.blame(2), 3);
        due("not ENDED", x.look(2, 5), 0);
        plan(3, "2.,2.");
        due("of what it HOLDS not", x.run(9, 200), 0);
        due("left", x.left(3), 0);
        due("BREACHES", x.led(3), 2);
        blamed(3, x.led(0), 1, 2, 0);

        says("an END that is not there yet: the PLAN ends.");
        talks("!i.!i.0");
        x.open(0, 0, 1);
        plan(0, "0!1,2!1,0!2");
        due("run", x.run(9, 200), 1);
        due("left", x.left(0), 0);
        due("it is no STEP", x.led(0), 1);
        due("it is no BREACH", x.blame(0), STATE);
        x.open(0, 0, 1);
        due("it stays ended", x.run(9, 200), 0);
        plan(0, "4!7");
        x.open(0, 0, 1);
        due("there by now", x.run(9, 200), 1);
        due("heard", x.hear(1, 5), 7);

        says("A GIVE of no END ends a PLAN.");
        talks("!(0).!(0).0", "0");
        x.open(0, 0, 1);
        x.open(1, 0, 0);
        plan(0, "0>2,0>4,0>3");
        due("run", x.run(9, 200), 1);
        due("left", x.left(0), 0);
        due("it is no STEP", x.led(0), 1);
        due("it is no BREACH", x.led(3), 0);
        plan(1, "0>9,1?");
        due("of what it HOLDS not", x.run(9, 200), 0);
        due("left", x.left(1), 0);
        due("no BREACH either", x.led(3), 0);
        due("not given", x.look(3, 0), 0);
    }

    /** SESSIONS, PLANS and all else that AN IMAGE keeps, none of it as it is at first. */
    private static void rich() {
        fresh();
        talks("*x.!(+{a:!i.0}).?i.x", "+{a:!i.0,b:0}", "*x.!i.x", "0", "!(!i.0).0", "!i.0");
        x.open(0, 0, 1);
        x.open(1, 0, 2);
        x.open(2, 3, 3);
        x.open(3, 2, 2);
        x.open(4, 2, 2);
        x.open(5, 2, 2);
        x.end(2, 6);
        x.give(0, 0, 2);
        x.say(3, 4, 5);
        x.say(3, 4, 6);
        x.say(3, 4, 7);
        x.size(3);
        plan(3, "5?,4!8,5?,5?,5?");
        plan(1, "1?,2+a,2!9,1!4");
        for (int seed = 0; seed < 20 && x.left(3) == 5; seed++) x.run(seed, 1);
        x.give(2, 8, 7);
    }

    /** Changes all that AN IMAGE keeps, and PROTOCOLS. */
    private static void spoil() {
        x.size(1);
        x.take(1, 1);
        x.choose(1, 2, 'a');
        x.say(1, 2, 3);
        x.say(1, 1, 4);
        x.hear(3, 5);
        x.end(2, 7);
        x.end(0, 6);
        x.open(3, 1, 1);
        due("give", x.give(2, 8, 10), 1);
        x.run(4, 30);
        plan(0, "0.");
        plan(3, "0.");
        define(0, "!b.0");
        define(4, "0");
        x.dual(1, 1);
    }

    /** How it goes on: a row of answers. */
    private static String onward() {
        int[] told = {x.size(3), x.end(2, 6), x.blame(1), x.blame(5), x.left(1), x.left(3), x.waiting(), x.look(2, 2), x.take(1, 1),
            x.choose(1, 2, 'b'), x.blame(5), x.run(11, 9), x.left(1), x.left(3), x.run(-3, 150), x.look(5, 4), x.hear(3, 5),
            x.hear(0, 0), x.hear(2, 3), x.offered(2, 3), x.hear(2, 3), x.give(2, 8, 2), x.blame(5), x.blame(6), x.say(2, 10, 5),
            x.hear(2, 11), x.open(3, 0, 0)};
        StringBuilder all = new StringBuilder();
        for (int one : told) all.append(one).append(' ');
        return all.append(told()).toString();
    }

    private static void images() {
        says("AN IMAGE keeps SESSIONS with all that is theirs, PLANS with how far they are, SIZE, STEPS, THE BLAME, what LED "
            + "tells.");
        rich();
        String goesOn = onward();
        rich();
        String before = seen() + told();
        due("image", x.image(), x.led(0));
        spoil();
        due("it is another now", x.count(1), 7);
        due("back", x.back(), x.led(0));
        same("all of it", seen() + told(), before);
        same("how it goes on", onward(), goesOn);
        x.back();
        same("how it goes on once more", onward(), goesOn);
        rich();
        x.image();
        spoil();
        x.image();
        String spoilt = told();
        x.back();
        same("the latest image", told(), spoilt);
        due("the latest image", x.count(1), 7);
    }

    private static void imageAlone() {
        says("SESSIONS go on by the PROTOCOL by which they were opened, whatever define(), back() do.");
        talks("!i.!i.?b.0", "!i.0");
        x.open(0, 0, 1);
        x.image();
        define(0, "?b.0");
        due("say", x.say(0, 0, 1), 1);
        x.dual(1, 0);
        due("say again", x.say(0, 0, 2), 1);
        due("its STATE", x.look(0, 1), 2);
        x.back();
        due("its STATE then", x.look(0, 1), 1);
        due("say", x.say(0, 0, 3), 1);
        due("say again", x.say(0, 0, 4), 1);
        due("hear", x.hear(1, 1), 3);
        due("hear again", x.hear(1, 1), 4);
        due("its STATE at last", x.look(1, 1), 1);
        due("PROTOCOL 0 stays as it is", x.ask(0, 4), 2);
        x.open(0, 0, 0);
        due("a new one goes by it", x.look(2, 1), 2);
        define(2, "0");
        feed("!!!");
        x.back();
        due("PROTOCOLS stay", x.count(0), 3);
        due("THE TAPE stays", x.count(2), 3);
    }
}
