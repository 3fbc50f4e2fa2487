/** 'Terms', as far as MEETING goes: PLACES, JAMS, CLASHES, the fewest moves, the most LETTERS. */
final class MeetingSentences extends Sheet {
    static void all() {
        lines();
        letters();
        moves();
        takings();
        offers();
        clashes();
        places();
        jams();
        full();
    }

    private static void lines() {
        says("2 MEETING of two PROTOCOLS, the one's party and the other's, with a line from each to the other that holds "
            + "n LETTERS (1 or 2) at most.");
        met("!i.!i.!i.0", "0", 1, 2, 1, 0, 1, 1);
        met("!i.!i.!i.0", "0", 2, 3, 1, 0, 2, 2);
        met("0", "!i.!i.!i.0", 1, 2, 1, 0, 1, 1);
        met("0", "!i.!i.!i.0", 2, 3, 1, 0, 2, 2);
        met("!i.0", "!i.0", 1, 4, 1, 0, 2, 1);
        met("?i.0", "?i.0", 2, 1, 1, 0, 0, 0);
        due("lines of 0", x.meet(0, 1, 0, 0), BAD);
        due("lines of 3", x.meet(0, 1, 3, 0), BAD);
        due("lines of -1", x.meet(0, 1, -1, 0), BAD);
        fresh();
        talks("!i.!i.0", "0", "?i.?i.0");
        due("by lines of 1", x.meet(0, 1, 1, 0), 2);
        due("then by lines of 2", x.meet(0, 1, 2, 0), 3);
        due("then with another", x.meet(0, 2, 2, 0), 6);
        due("then the other way about", x.meet(2, 0, 1, 0), 5);
        due("then with itself", x.meet(2, 2, 1, 1), 1);
        due("then the first again", x.meet(0, 1, 2, 0), 3);
        define(0, "0");
        due("then with what it is now", x.meet(0, 1, 2, 0), 1);
        x.dual(2, 1);
        due("then with a DUAL", x.meet(0, 1, 2, 0), 3);
        fresh();
        talks("!i.!i.0", "?i.?i.0", "?b.0", "0");
        int[][] told = {{0, 1, 6, 0, 0, NOT, 2}, {1, 1, 1, 1, 0, 0, 0}, {0, 2, 2, 0, 1, 1, 1}, {0, 0, 9, 1, 0, 4, 2},
            {3, 3, 1, 0, 0, NOT, 0}, {0, 1, 6, 0, 0, NOT, 2}, {0, 0, 9, 1, 0, 4, 2}, {2, 0, 2, 0, 1, 1, 1}};
        // What was met before leaves nothing behind.
        for (int[] one : told) {
            for (int what = 0; what < 5; what++) {
                due("meet(" + one[0] + ", " + one[1] + ", 2, " + what + ")", x.meet(one[0], one[1], 2, what), one[2 + what]);
            }
        }
    }

    private static void letters() {
        says("A LETTER: the SEND by which it was sent, or a LABEL.");
        met("+{a:!i.0,b:!i.0}", "0", 1, 3, 2, 0, 1, 1);
        met("+{a:!i.0,b:!i.0}", "0", 2, 5, 2, 0, 2, 2);
        // The a of either CHOOSE is one LETTER.
        met("*x.+{b:+{a:x},a:x}", "*z.&{a:z,b:z}", 1, 4, 0, 0, NOT, 1);

        says("Two SENDS at unlike PLACES are unlike LETTERS.");
        met("!i.*x.!i.x", "*y.?i.y", 1, 4, 0, 0, NOT, 1);
        met("!i.*x.!i.x", "*y.?i.y", 2, 6, 0, 0, NOT, 2);
        met("!(0).*x.!(0).x", "*y.?(0).y", 1, 4, 0, 0, NOT, 1);
        met("!i.*x.+{b:!i.x,a:!i.x}", "*t.?i.&{a:t,b:t}", 1, 9, 0, 0, NOT, 1);
    }

    private static void moves() {
        says("Moves: of a party at a SEND, at a CHOOSE (by each LABEL), if its line is not full: the LETTER goes on it.");
        met("!i.0", "0", 1, 2, 1, 0, 1, 1);
        met("+{a:0,b:0,c:0}", "0", 1, 4, 3, 0, 1, 1);
        met("+{a:0,b:0,c:0,d:0,e:0,f:0}", "0", 1, 7, 6, 0, 1, 1);
        met("+{a:!i.0,z:+{a:0}}", "0", 1, 3, 2, 0, 1, 1);
        met("+{a:!i.0,z:+{a:0,y:0}}", "0", 2, 6, 3, 0, 2, 2);
        met("!i.!i.?i.0", "!i.!i.?i.0", 1, 4, 1, 0, 2, 1);
        met("*x.!i.x", "*x.!b.x", 1, 4, 1, 0, 2, 1);
        met("*x.!i.x", "*x.!b.x", 2, 9, 1, 0, 4, 2);

        says("At a TAKE, an OFFER, if there is a LETTER on the line to it: the first one goes off, if it may:");
        met("!i.0", "?i.0", 1, 3, 0, 0, NOT, 1);
        met("!i.!b.0", "?i.?b.0", 1, 5, 0, 0, NOT, 1);
        met("!i.!b.0", "?i.?b.0", 2, 6, 0, 0, NOT, 2);
        met("+{a:+{b:0}}", "&{a:&{b:0}}", 2, 6, 0, 0, NOT, 2);
        met("+{a:+{b:0}}", "&{b:&{a:0}}", 2, 2, 0, 1, 1, 1);
        met("?i.0", "&{a:0}", 2, 1, 1, 0, 0, 0);
        met("!i.?i.0", "!i.?i.0", 1, 7, 0, 0, NOT, 1);
    }

    private static void takings() {
        says("to a TAKE a SEND's whose T and its own are alike,");
        met("!b.0", "?b.0", 1, 3, 0, 0, NOT, 1);
        met("!i.0", "?b.0", 1, 2, 0, 1, 1, 1);
        met("!b.0", "?i.0", 1, 2, 0, 1, 1, 1);
        met("!i.0", "?(0).0", 1, 2, 0, 1, 1, 1);
        met("!(0).0", "?b.0", 1, 2, 0, 1, 1, 1);
        met("?b.0", "!i.0", 1, 2, 0, 1, 1, 1);
        met("+{a:0}", "?i.0", 1, 2, 0, 1, 1, 1);
        met("+{a:0}", "?(0).0", 1, 2, 0, 1, 1, 1);
        met("!(*x.!i.x).0", "?(!i.*y.!i.!i.y).0", 1, 3, 0, 0, NOT, 1);

        says("or both brackets, and the TAKE's P FITS the SEND's P;");
        met("!(0).0", "?(0).0", 1, 3, 0, 0, NOT, 1);
        met("!(!i.0).0", "?(0).0", 1, 2, 0, 1, 1, 1);
        met("!(+{a:0,b:0}).0", "?(+{a:0}).0", 1, 3, 0, 0, NOT, 1);
        met("!(+{a:0}).0", "?(+{a:0,b:0}).0", 1, 2, 0, 1, 1, 1);
        met("!(&{a:0}).0", "?(&{a:0,b:0}).0", 1, 3, 0, 0, NOT, 1);
        met("!(&{a:0,b:0}).0", "?(&{a:0}).0", 1, 2, 0, 1, 1, 1);
        met("?(+{a:0}).0", "!(+{a:0,b:0}).0", 1, 3, 0, 0, NOT, 1);
        met("?(+{a:0,b:0}).0", "!(+{a:0}).0", 1, 2, 0, 1, 1, 1);
        // Two of each, of which each must be looked at by itself.
        met("!(0).!(!i.0).0", "?(0).?(!i.0).0", 2, 6, 0, 0, NOT, 2);
        met("!(0).!(!i.0).0", "?(0).?(0).0", 2, 5, 0, 1, 3, 2);
        met("!(!i.0).?(0).0", "?(!i.0).!(?i.0).0", 1, 4, 0, 1, 3, 1);
        met("*x.!(0).!(!i.0).x", "*y.?(0).y", 1, 4, 0, 1, 3, 1);
        met("!(!b.0).?(!i.0).0", "!(!i.0).?(!i.0).0", 1, 4, 0, 1, 2, 1);
        met("!(!i.0).?(!i.0).0", "!(!b.0).?(!i.0).0", 1, 4, 0, 1, 2, 1);
        fresh();
        talks("!(!i.0).0", "?(!i.0).0", "!(!b.0).0", "?(!b.0).0");
        due("it FITS", x.meet(0, 1, 1, 0), 3);
        due("another one there FITS not", x.meet(2, 1, 1, 0), 2);
        due("another one there FITS", x.meet(2, 3, 1, 0), 3);
        due("another one FITS not", x.meet(0, 3, 1, 0), 2);
    }

    private static void offers() {
        says("to an OFFER a LABEL that it has.");
        met("+{a:0}", "&{a:0}", 1, 3, 0, 0, NOT, 1);
        met("+{z:0}", "&{z:0}", 1, 3, 0, 0, NOT, 1);
        met("+{a:0}", "&{z:0}", 1, 2, 0, 1, 1, 1);
        met("+{a:0,b:0}", "&{a:0}", 1, 4, 0, 1, 1, 1);
        met("+{a:0}", "&{a:0,b:!i.0}", 1, 3, 0, 0, NOT, 1);
        met("+{b:0}", "&{a:?i.0,b:0}", 1, 3, 0, 0, NOT, 1);
        met("+{a:0,b:0}", "&{b:?i.0,a:0}", 1, 5, 1, 0, 2, 1);
        met("!i.0", "&{a:0}", 1, 2, 0, 1, 1, 1);
        met("!(0).0", "&{a:0}", 1, 2, 0, 1, 1, 1);
    }

    private static void clashes() {
        says("It is a CLASH where the first LETTER may not go off.");
        met("!i.!b.0", "?i.?i.0", 2, 5, 0, 1, 3, 2);
        met("!b.!i.0", "?i.?i.0", 2, 2, 0, 1, 1, 1);
        // A LETTER on the line to a SEND or an END is none.
        met("!i.0", "!i.?b.0", 1, 4, 0, 1, 2, 1);
        met("!i.0", "0", 1, 2, 1, 0, 1, 1);
        met("!b.?i.0", "!b.?i.0", 1, 4, 0, 1, 2, 1);
    }

    private static void places() {
        says("PLACES: both STATES (as NODES) and what is on both lines, as far as moves from the beginning lead, none out "
            + "of a CLASH.");
        met("0", "0", 1, 1, 0, 0, NOT, 0);
        met("*x.!i.!i.x", "*y.?i.y", 1, 4, 0, 0, NOT, 1);
        met("*x.*y.!i.x", "*z.?i.z", 1, 2, 0, 0, NOT, 1);
        met("*x.*y.!i.x", "*z.?i.z", 2, 3, 0, 0, NOT, 2);
        met(many("!i.", 59) + "0", many("?i.", 59) + "0", 1, 119, 0, 0, NOT, 1);
        met(many("!i.", 59) + "0", many("?i.", 59) + "0", 2, 177, 0, 0, NOT, 2);
        met("!b.!i.!i.0", "?i.?i.0", 2, 2, 0, 1, 1, 1);
        met("!b.?i.0", "?i.!i.0", 2, 2, 0, 1, 1, 1);
        met("!i.+{a:0,b:!i.!i.!i.0}", "?b.0", 1, 2, 0, 1, 1, 1);
    }

    private static void jams() {
        says("JAM: no CLASH, no move, but not both at an END with empty lines.");
        met("0", "0", 2, 1, 0, 0, NOT, 0);
        met("0", "?i.0", 1, 1, 1, 0, 0, 0);
        met("&{a:0}", "0", 1, 1, 1, 0, 0, 0);
        met("?i.0", "?b.0", 1, 1, 1, 0, 0, 0);
        met("!i.0", "0", 2, 2, 1, 0, 1, 1);
        met("0", "+{a:0}", 2, 2, 1, 0, 1, 1);
        met("!i.!i.0", "?i.0", 1, 4, 1, 0, 3, 1);
        met("!i.!i.0", "?i.0", 2, 5, 1, 0, 3, 2);
        met("!i.0", "?i.?i.0", 1, 3, 1, 0, 2, 1);
        met("!i.?i.?i.0", "?i.!i.0", 1, 5, 1, 0, 4, 1);
    }

    private static void full() {
        says("(There may be 3000 PLACES.)");
        talks("*x.+{a:+{a:x,b:x},b:x,c:+{a:x,b:x,c:x},d:x,e:+{a:x,b:x,c:x,d:x}}",
            "*x.&{a:x,b:+{a:x,b:x,c:x,d:0,e:x},c:+{a:x,b:x,c:x,d:x}}",
            "*x.+{a:x,b:x,c:x,d:x,e:0}",
            "*x.&{a:&{a:x,b:x,c:+{a:0,b:x,c:x,d:x},d:+{a:x,b:0}},b:&{a:x,b:x,c:x,d:x,e:x}}");
        due("3000 PLACES", x.meet(0, 1, 2, 0), 3000);
        due("CLASHES among them", x.meet(0, 1, 2, 2) > 0 ? 1 : 0, 1);
        due("the most LETTERS among them", x.meet(0, 1, 2, 4), 2);
        for (int what = 0; what < 5; what++) due("3001 PLACES, what " + what, x.meet(2, 3, 2, what), FULL);
        due("BAD ahead of FULL", x.meet(2, 3, 2, 5), BAD);
        due("BAD ahead of FULL", x.meet(2, 3, 3, 0), BAD);
        due("by lines of 1 there are fewer", x.meet(2, 3, 1, 0) > 0 ? 1 : 0, 1);
        due("3001 PLACES once more", x.meet(2, 3, 2, 0), FULL);
        due("3000 PLACES once more", x.meet(0, 1, 2, 0), 3000);
    }
}
