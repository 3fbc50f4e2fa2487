import java.util.Random;

/**
 * Texts alone, each read by SessionEnds and by Model: every short one of a few signs, and long ones that grow sign
 * by sign up to the limits of the document and are spoilt there.
 */
public final class TextTests {
    private static final String SIGNS = "0!?+&*xyabcdefgib(){}:,.";
    private static final int DEFINES = 2;
    private static int passed;
    private static int failed;
    private static int read;
    private static int whole;
    private static int spoilt;
    private static SessionEnds real;
    private static Model model;

    private static void due(String call, int got, int want) {
        if (got == want) {
            passed++;
            return;
        }
        failed++;
        if (failed <= 20) System.out.println(call + " answered " + got + ", due is " + want);
    }

    private static void feed(String text) {
        for (int i = 0; i < text.length(); i++) {
            real.feed(text.charAt(i));
            model.feed(text.charAt(i));
        }
    }

    /** Each text twice to the same object: what was read before must not be seen in what is read next. */
    private static void define(String text) {
        real = new SessionEnds();
        model = new Model();
        for (int k = 0; k < DEFINES; k++) {
            feed(text);
            int want = model.define(k);
            due("define(" + k + ") '" + text + "'", real.define(k), want);
            count(want);
            if (want > 0) {
                due("spell(" + k + ", -1) of '" + text + "'", real.spell(k, -1), model.spell(k, -1));
                due("dual(" + k + ", 2) of '" + text + "'", real.dual(k, 2), model.dual(k, 2));
                due("ask(2, 5) of '" + text + "'", real.ask(2, 5), model.ask(2, 5));
            }
        }
        due("count(2)", real.count(2), 0);
    }

    private static void plan(String text) {
        real = new SessionEnds();
        model = new Model();
        feed(text);
        int want = model.plan(3);
        due("plan(3) '" + text + "'", real.plan(3), want);
        due("left(3) of '" + text + "'", real.left(3), model.left(3));
        count(want);
    }

    private static void count(int want) {
        read++;
        if (want > 0) whole++;
        else if (want < -100) spoilt++;
    }

    private static void everyShort(String signs, int most, boolean isPlan) {
        int[] at = new int[most];
        StringBuilder text = new StringBuilder();
        for (int length = 0; length <= most; length++) {
            long many = 1;
            for (int i = 0; i < length; i++) many *= signs.length();
            for (long one = 0; one < many; one++) {
                text.setLength(0);
                long rest = one;
                for (int i = 0; i < length; i++) {
                    at[i] = (int) (rest % signs.length());
                    rest /= signs.length();
                    text.append(signs.charAt(at[i]));
                }
                if (isPlan) plan(text.toString());
                else define(text.toString());
            }
        }
    }

    /** Grows by signs with which a PROTOCOL goes on, as the Model tells: a FAULT at the length only. */
    private static String grown(Random draw, String liked, int length) {
        StringBuilder text = new StringBuilder();
        for (int tries = 0; tries < 40 * length && text.length() < length; tries++) {
            String signs = draw.nextInt(100) < 75 ? liked : SIGNS;
            text.append(signs.charAt(draw.nextInt(signs.length())));
            if (goesOn(text.toString())) continue;
            text.setLength(text.length() - 1);
        }
        return text.toString();
    }

    private static boolean goesOn(String text) {
        try {
            new Model.Parser(text).whole();
            return false;
        } catch (Model.Fault fault) {
            return fault.place == text.length();
        }
    }

    private static void grownTalks(int runs) {
        Random draw = new Random(41);
        String[] liked = {"!?ib..", "!(!(!(!?(+{a:0", "+&{abcdefg:0,", "*xy.!i.xy+{a:", "!i.?b.0(){}:,*x", "*****xy.!i"};
        for (int run = 0; run < runs; run++) {
            String text = grown(draw, liked[run % liked.length], 10 + draw.nextInt(190));
            define(text);
            String ahead = text.substring(0, draw.nextInt(text.length()));
            for (int i = 0; i < SIGNS.length(); i++) {
                // Z goes on nowhere: it tells whether the sign ahead of it was the FAULT.
                if (text.length() < 199) define(text + SIGNS.charAt(i) + "Z");
                if (run < 400) define(ahead + SIGNS.charAt(i) + "Z");
            }
        }
    }

    private static String act(Random draw) {
        int end = draw.nextInt(40) == 0 ? draw.nextInt(130) : draw.nextInt(16);
        String number = end < 10 && draw.nextInt(5) == 0 ? "0" + end : "" + end;
        switch (draw.nextInt(6)) {
            case 0: return number + "!" + draw.nextInt(draw.nextInt(20) == 0 ? 2000 : 1000);
            case 1: return number + "?";
            case 2: return number + "+" + (char) ('a' + draw.nextInt(26));
            case 3: return number + "&";
            case 4: return number + ">" + draw.nextInt(draw.nextInt(20) == 0 ? 130 : 16);
            default: return number + ".";
        }
    }

    private static void grownPlans(int runs) {
        Random draw = new Random(43);
        String signs = "0123456789!?+&>.,az";
        for (int run = 0; run < runs; run++) {
            StringBuilder text = new StringBuilder();
            int acts = draw.nextInt(3) == 0 ? 22 + draw.nextInt(5) : 1 + draw.nextInt(6);
            for (int i = 0; i < acts; i++) text.append(i == 0 ? "" : ",").append(act(draw));
            int changes = draw.nextInt(3);
            for (int i = 0; i < changes; i++) {
                int at = draw.nextInt(text.length());
                char sign = signs.charAt(draw.nextInt(signs.length()));
                if (draw.nextBoolean()) text.insert(at, sign);
                else text.setCharAt(at, sign);
            }
            plan(text.toString());
        }
    }

    public static void main(String[] args) {
        everyShort("0!*xyi.", 5, false);
        everyShort("0!+{}ab:,.i", 4, false);
        everyShort("0?(){&a:}.b", 4, false);
        everyShort("01569!?+&>.,a", 4, true);
        everyShort("01!.>,", 6, true);
        grownTalks(800);
        grownPlans(6000);
        System.out.println("TextTests: " + read + " texts, " + whole + " whole, " + spoilt + " with a FAULT behind the first");
        System.out.println(passed + " passed, " + failed + " failed");
        if (failed != 0 || whole < 1000 || spoilt < 1000) System.exit(1);
    }
}
