import java.util.ArrayList;
import java.util.List;
import java.util.Random;

/** Rows of calls drawn from fixed seeds, each answered by SessionEnds and by Model; every answer is compared. */
public final class OracleTests {
    private final Random draw;
    private final SessionEnds real = new SessionEnds();
    private final Model model = new Model();
    private final List<String> done = new ArrayList<>();
    private final List<String> pool = new ArrayList<>();
    private boolean wrong;
    private static long calls;

    private OracleTests(long seed) {
        draw = new Random(seed);
    }

    public static void main(String[] args) {
        int passed = 0;
        int failed = 0;
        int runs = args.length > 0 ? Integer.parseInt(args[0]) : 1400;
        for (int seed = 0; seed < runs; seed++) {
            OracleTests one = new OracleTests(seed);
            one.play(seed % 7);
            if (one.wrong) failed++;
            else passed++;
            if (failed > 3) break;
        }
        System.out.println("OracleTests: " + calls + " calls in " + (passed + failed) + " runs");
        System.out.println(passed + " passed, " + failed + " failed");
        if (failed != 0) System.exit(1);
    }

    private int due(String call, int got, int want) {
        calls++;
        done.add(call + " = " + got);
        if (got != want && !wrong) {
            wrong = true;
            System.out.println("WRONG: " + call + " answered " + got + ", due is " + want + "; behind:");
            int from = Math.max(0, done.size() - 600);
            System.out.println(String.join("\n", done.subList(from, done.size())));
        }
        return got;
    }

    private int below(int n) {
        return draw.nextInt(n);
    }

    private boolean chance(int percent) {
        return below(100) < percent;
    }

    // ---- texts

    private String talk(int depth, String loops, String fresh, boolean bare) {
        // fresh: LOOPS that may not begin anew yet.
        int kind = depth <= 0 ? below(2) * 7 : below(12);
        String open = loops.replaceAll("[" + (fresh.isEmpty() ? "0" : fresh) + "]", "");
        if (kind >= 10 && loops.length() < 3) {
            String x = "" + (char) ('x' + below(3));
            return "*" + x + "." + talk(depth - 1, loops.replace(x, "") + x, fresh.replace(x, "") + x, bare);
        }
        if (kind >= 7 && kind < 9 && !open.isEmpty()) return "" + open.charAt(below(open.length()));
        if (depth <= 0 || kind == 0) return "0";
        if (kind <= 4) {
            return (chance(50) ? "!" : "?") + sort(depth, bare) + "." + talk(depth - 1, loops, "", bare);
        }
        StringBuilder all = new StringBuilder(chance(50) ? "+" : "&").append('{');
        int many = 1 + below(chance(10) ? 6 : 3);
        String left = "abcdefg".substring(0, many + 1);
        for (int i = 0; i < many; i++) {
            char label = left.charAt(below(left.length()));
            left = left.replace("" + label, "");
            all.append(i == 0 ? "" : ",").append(label).append(':').append(talk(depth - 1 - below(2), loops, "", bare));
        }
        return all.append('}').toString();
    }

    /** What gives ENDS that follow what is in the pool already. */
    private String carrier(int i) {
        String inner = pool.isEmpty() ? "0" : varied(pool.get(Math.min(i, pool.size() - 1)));
        String other = pool.isEmpty() ? "0" : varied(pool.get(below(pool.size())));
        switch (below(4)) {
            case 0: return "*x.!(" + inner + ").x";
            case 1: return "!(" + inner + ").?(" + other + ").0";
            case 2: return "*x.+{a:!(" + inner + ").x,b:?(" + other + ").x,c:0}";
            default: return "*x.!(" + inner + ").!i.!(" + other + ").x";
        }
    }

    private String sort(int depth, boolean bare) {
        if (bare || chance(65)) return chance(60) ? "i" : "b";
        if (!pool.isEmpty() && chance(50)) return "(" + varied(pool.get(below(pool.size()))) + ")";
        return "(" + talk(depth - 2, "", "", false) + ")";
    }

    private String varied(String text) {
        try {
            return varied(new Model.Parser(text).whole().root);
        } catch (Model.Fault fault) {
            return "0";
        }
    }

    private String varied(Model.Node node) {
        switch (node.kind) {
            case '0': return "0";
            case 'x': return "" + node.letter;
            case '*': {
                String inner = varied(node.next);
                String loop = "*" + node.letter + "." + inner;
                boolean plain = inner.indexOf('{') < 0 && inner.indexOf('*') < 0 && inner.indexOf('(') < 0;
                return plain && chance(30) ? inner.replace("" + node.letter, loop) : loop;
            }
            case '!':
            case '?': {
                String sort = node.sort == '(' ? "(" + varied(node.inner) + ")" : chance(4) ? "i" : "" + node.sort;
                return node.kind + sort + "." + varied(node.next);
            }
            default: {
                StringBuilder all = new StringBuilder().append(node.kind).append('{');
                int left = node.by.size();
                for (char label : node.by.keySet()) {
                    if (left > 1 && chance(12)) {
                        left--;
                        continue;
                    }
                    all.append(all.length() > 2 ? "," : "").append(label).append(':').append(varied(node.by.get(label)));
                }
                if (left < 6 && chance(12)) all.append(",h:0");
                return all.append('}').toString();
            }
        }
    }

    private String spoilt(String text) {
        StringBuilder made = new StringBuilder(text);
        String signs = "0!?+&*xyzabci(){}:.,19~";
        for (int many = 1 + below(2); many > 0; many--) {
            int at = below(made.length() + 1);
            char sign = chance(3) ? (char) (1 + below(255)) : signs.charAt(below(signs.length()));
            if (at == made.length() || chance(30)) made.insert(at, sign);
            else if (chance(50)) made.deleteCharAt(at);
            else made.setCharAt(at, sign);
        }
        return made.toString();
    }

    private void feedAll(String text) {
        for (char sign : text.toCharArray()) {
            due("feed(" + (int) sign + ")", real.feed(sign), model.feed(sign));
        }
    }

    private void define(int k, String text) {
        feedAll(text);
        due("define(" + k + ") '" + text + "'", real.define(k), model.define(k));
    }

    // ---- rows of calls

    private void play(int way) {
        for (int i = 0; i < 6; i++) {
            String text = talk(2 + below(way == 6 ? 10 : 5), "", "", chance(40));
            if (way >= 4 && way < 6 && i >= 3) text = carrier(i - 3);
            if (!pool.isEmpty() && chance(45)) text = varied(pool.get(below(pool.size())));
            if (chance(15)) text = spoilt(text);
            if (text.length() <= 200) pool.add(text);
            define(below(20) == 0 ? below(20) - 2 : i, text.length() > 230 ? "0" : text);
        }
        for (int turn = 0; turn < 250 && !wrong; turn++) {
            if (way == 0 || turn < 40) protocolCall();
            else if (way == 1 && chance(30)) planCall();
            else if (way == 2 && chance(4)) planCall();
            else if (chance(5)) protocolCall();
            else sessionCall();
        }
        for (int what = -1; what < 9; what++) tell(what);
    }

    private int some() {
        return chance(4) ? below(24) - 4 : below(8);
    }

    private void protocolCall() {
        int j = some();
        int k = some();
        switch (below(14)) {
            case 0: due("dual(" + j + "," + k + ")", real.dual(j, k), model.dual(j, k)); break;
            case 1:
            case 2: spell(k); break;
            case 3:
            case 4: for (int what = -1; what < 7; what++) ask(k, what); break;
            case 5: due("same(" + j + "," + k + ")", real.same(j, k), model.same(j, k)); break;
            case 6:
            case 7: due("fits(" + j + "," + k + ")", real.fits(j, k), model.fits(j, k)); witness(j, k); break;
            case 8: witness(j, k); break;
            case 9: for (int side = -1; side < 3; side++) bound(k, side); break;
            case 10:
            case 11: meet(j, k); break;
            case 12: again(k); break;
            default:
                due("dual(" + j + "," + k + ")", real.dual(j, k), model.dual(j, k));
                meet(j, k);
                break;
        }
    }

    private void again(int k) {
        String text = chance(50) || pool.isEmpty() ? talk(5, "", "", false) : pool.get(below(pool.size()));
        if (chance(30)) text = spoilt(text);
        if (text.length() < 60) define(k, text);
    }

    private void ask(int k, int what) {
        due("ask(" + k + "," + what + ")", real.ask(k, what), model.ask(k, what));
    }

    private void bound(int k, int side) {
        due("bound(" + k + "," + side + ")", real.bound(k, side), model.bound(k, side));
    }

    private void spell(int k) {
        int many = due("spell(" + k + ",-1)", real.spell(k, -1), model.spell(k, -1));
        for (int i = -2; i <= many + 1; i++) due("spell(" + k + "," + i + ")", real.spell(k, i), model.spell(k, i));
    }

    private void witness(int j, int k) {
        int many = due("witness(" + j + "," + k + ",-1)", real.witness(j, k, -1), model.witness(j, k, -1));
        for (int i = -2; i <= many + 1; i++) {
            due("witness(" + j + "," + k + "," + i + ")", real.witness(j, k, i), model.witness(j, k, i));
        }
    }

    private void meet(int j, int k) {
        int n = chance(5) ? below(5) - 1 : 1 + below(2);
        for (int what = -1; what < 6; what++) {
            due("meet(" + j + "," + k + "," + n + "," + what + ")", real.meet(j, k, n, what), model.meet(j, k, n, what));
        }
    }

    private void tell(int what) {
        due("led(" + what + ")", real.led(what), model.led(what));
        due("count(" + what + ")", real.count(what), model.count(what));
        due("blame(" + what + ")", real.blame(what), model.blame(what));
        for (int end = -1; end < 17; end++) due("look(" + end + "," + what + ")", real.look(end, what), model.look(end, what));
        due("left(" + what + ")", real.left(what), model.left(what));
        due("waiting()", real.waiting(), model.waiting());
    }

    private void sessionCall() {
        if (model.now.ends.size() < 8 && chance(60) || chance(3)) {
            int k = chance(50) ? below(6) : some();
            int p = chance(5) ? below(8) - 2 : chance(50) ? 1 : below(4);
            int q = chance(5) ? below(8) - 2 : below(4);
            due("open(" + k + "," + p + "," + q + ")", real.open(k, p, q), model.open(k, p, q));
            return;
        }
        if (chance(3)) {
            int n = below(7) - 1;
            due("size(" + n + ")", real.size(n), model.size(n));
            return;
        }
        if (chance(2)) due("image()", real.image(), model.image());
        if (chance(1)) due("back()", real.back(), model.back());
        if (chance(15)) tell(below(10) - 1);
        else if (chance(25) || model.now.ends.isEmpty()) wildAct();
        else dueAct();
    }

    private void wildAct() {
        int ends = Math.max(1, model.now.ends.size());
        int end = chance(8) ? below(20) - 2 : below(ends);
        int party = chance(5) ? below(8) - 2 : below(4);
        if (chance(80) && model.there(end)) party = model.now.ends.get(end).holder;
        act(party, end, below(7), chance(50) ? 97 + below(4) : chance(50) ? below(ends + 1) - 1 : below(2000) - 500);
    }

    /** Mostly what the STATE is for, by who HOLDS the END. */
    private void dueAct() {
        int end = below(model.now.ends.size());
        Model.End one = model.now.ends.get(end);
        for (int i = 0; i < 4 && one.ended; i++) one = model.now.ends.get(end = below(model.now.ends.size()));
        boolean bracket = one.state.sort == '(';
        switch (one.state.kind) {
            case '0': act(one.holder, end, chance(40) ? 6 : below(7), 0); break;
            case '!':
                if (bracket) act(one.holder, end, 4, gift(one));
                else act(one.holder, end, 0, chance(90) ? below(2) : below(1010) - 4);
                break;
            case '?': act(one.holder, end, bracket ? 5 : 1, 0); break;
            case '+': act(one.holder, end, 2, label(one.state)); break;
            default: act(one.holder, end, 3, 0); break;
        }
    }

    private int label(Model.Node state) {
        List<Character> labels = new ArrayList<>(state.by.keySet());
        return chance(92) ? labels.get(below(labels.size())) : 97 + below(9);
    }

    private int gift(Model.End giver) {
        for (int i = 0; i < 12; i++) {
            int given = below(model.now.ends.size());
            Model.End one = model.now.ends.get(given);
            if (one.holder == giver.holder && (i > 8 || Model.related(giver.state.inner, one.state, false))) return given;
        }
        return below(model.now.ends.size());
    }

    private void act(int party, int end, int which, int value) {
        String args = "(" + party + "," + end;
        switch (which) {
            case 0: due("say" + args + "," + value + ")", real.say(party, end, value), model.say(party, end, value)); break;
            case 1: due("hear" + args + ")", real.hear(party, end), model.hear(party, end)); break;
            case 2: due("choose" + args + "," + value + ")", real.choose(party, end, value), model.choose(party, end, value)); break;
            case 3: due("offered" + args + ")", real.offered(party, end), model.offered(party, end)); break;
            case 4: due("give" + args + "," + value + ")", real.give(party, end, value), model.give(party, end, value)); break;
            case 5: due("take" + args + ")", real.take(party, end), model.take(party, end)); break;
            default: due("end" + args + ")", real.end(party, end), model.end(party, end)); break;
        }
        if (chance(20)) for (int what = 0; what < 8; what++) due("blame(" + what + ")", real.blame(what), model.blame(what));
    }

    // ---- plans

    private void planCall() {
        int party = chance(5) ? below(7) - 1 : below(4);
        if (chance(50)) {
            String text = planText(party);
            if (chance(15)) text = spoilt(text);
            feedAll(text);
            due("plan(" + party + ") '" + text + "'", real.plan(party), model.plan(party));
        }
        if (chance(60)) {
            int seed = draw.nextInt();
            int n = chance(5) ? below(3) * 100 : 1 + below(60);
            due("run(" + seed + "," + n + ")", real.run(seed, n), model.run(seed, n));
        }
        for (int one = -1; one < 5; one++) due("left(" + one + ")", real.left(one), model.left(one));
        due("waiting()", real.waiting(), model.waiting());
    }

    private String planText(int party) {
        StringBuilder all = new StringBuilder();
        int acts = chance(3) ? 23 + below(4) : 1 + below(8);
        Model.Node[] states = new Model.Node[16];
        for (int i = 0; i < acts; i++) {
            int ends = Math.max(1, model.now.ends.size());
            int end = chance(3) ? below(18) : below(ends);
            for (int tries = 0; tries < 20; tries++) {
                if (model.there(end) && model.now.ends.get(end).holder == party) break;
                end = below(ends);
            }
            if (i > 0) all.append(',');
            if (end < 10 && chance(10)) all.append('0');
            all.append(end);
            if (model.there(end) && states[end] == null) states[end] = model.now.ends.get(end).state;
            Model.Node state = end < 16 ? states[end] : null;
            if (state == null || chance(5)) {
                all.append(new String[] {"!7", "?", "+a", "&", ">1", ".", "!1000", ">16"}[below(8)]);
                continue;
            }
            states[end] = planAct(all, state, ends);
        }
        return all.toString();
    }

    private int fitting(Model.Node state, int ends) {
        for (int i = 0; i < 20; i++) {
            int given = below(ends);
            if (!model.there(given)) break;
            if (Model.related(state.inner, model.now.ends.get(given).state, false)) return given;
        }
        return below(ends);
    }

    private Model.Node planAct(StringBuilder all, Model.Node state, int ends) {
        switch (state.kind) {
            case '0': all.append('.'); return state;
            case '!':
                if (state.sort == '(') all.append('>').append(fitting(state, ends));
                else all.append('!').append(chance(5) ? "00" : "").append(chance(95) ? below(2) : below(1003));
                return state.next.state();
            case '?': all.append('?'); return state.next.state();
            case '+': {
                int label = label(state);
                all.append('+').append((char) label);
                Model.Node next = state.by.get((char) label);
                return next == null ? state : next.state();
            }
            default: all.append('&'); return state.by.firstEntry().getValue().state();
        }
    }
}
