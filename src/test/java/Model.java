import java.util.ArrayDeque;
import java.util.ArrayList;
import java.util.HashSet;
import java.util.LinkedHashMap;
import java.util.List;
import java.util.Map;
import java.util.Set;
import java.util.TreeMap;

/**
 * The document once more, told in another way: trees instead of rows, relations that shrink till they stand
 * instead of rows of pairs, texts as keys of PLACES. OracleTests holds SessionEnds against it.
 */
final class Model {
    static final int BAD = -1, NOT = -2, FULL = -3, WAITS = -4, STATE = -5, BREACH = -6;

    static final class Fault extends RuntimeException {
        private static final long serialVersionUID = 1;
        final int place;

        Fault(int place) {
            super(null, null, false, false);
            this.place = place;
        }
    }

    /** kind: 0 ! ? + & * or x for AGAIN. */
    static final class Node {
        char kind;
        char letter;
        char sort;
        Node inner;
        Node next;
        int depth;
        TreeMap<Character, Node> by = new TreeMap<>();

        Node state() {
            Node at = this;
            while (at.kind == '*' || at.kind == 'x') at = at.next;
            return at;
        }

        int number() {
            return "0!?+&".indexOf(kind);
        }

        int bits() {
            int bits = 0;
            for (char label : by.keySet()) bits |= 1 << label - 'a';
            return bits;
        }
    }

    static final class Talk {
        final List<Node> nodes = new ArrayList<>();
        Node root;
        int brackets;
    }

    /** One LOOP or other NODE around the place that is read. */
    record Around(Node node, Around outer) { }

    static final class Parser {
        final String text;
        int at;
        final Talk talk = new Talk();

        Parser(String text) {
            this.text = text;
        }

        char peek() {
            return at < text.length() ? text.charAt(at) : (char) 0;
        }

        void need(char due) {
            if (peek() != due) throw new Fault(at);
            at++;
        }

        char letter() {
            char sign = peek();
            if (sign < 'a' || sign > 'z') throw new Fault(at);
            at++;
            return sign;
        }

        Talk whole() {
            talk.root = protocol(null, 0, 0);
            if (at != text.length()) throw new Fault(at);
            return talk;
        }

        Node protocol(Around around, int open, int depth) {
            char sign = peek();
            boolean again = sign >= 'a' && sign <= 'z';
            if (sign == 0 || !again && "0!?+&*".indexOf(sign) < 0) throw new Fault(at);
            if (talk.nodes.size() == 60) throw new Fault(at);
            Node node = new Node();
            node.kind = again ? 'x' : sign;
            node.depth = depth;
            if (again) {
                node.letter = sign;
                boolean guarded = false;
                Around up = around;
                while (up != null && !(up.node.kind == '*' && up.node.letter == sign)) {
                    guarded |= up.node.kind != '*';
                    up = up.outer;
                }
                if (up == null || !guarded) throw new Fault(at);
                node.next = up.node;
            }
            talk.nodes.add(node);
            at++;
            Around inside = new Around(node, around);
            if (sign == '*') {
                node.letter = letter();
                need('.');
                node.next = protocol(inside, open, depth);
            } else if (sign == '!' || sign == '?') {
                sort(node, open, depth);
                need('.');
                node.next = protocol(inside, open, depth);
            } else if (sign == '+' || sign == '&') {
                braces(node, inside, open, depth);
            }
            return node;
        }

        void sort(Node node, int open, int depth) {
            node.sort = peek();
            if (node.sort != 'i' && node.sort != 'b' && node.sort != '(') throw new Fault(at);
            if (node.sort == '(' && open == 8) throw new Fault(at);
            at++;
            if (node.sort != '(') return;
            talk.brackets = Math.max(talk.brackets, depth + 1);
            node.inner = protocol(null, open + 1, depth + 1);
            need(')');
        }

        void braces(Node node, Around inside, int open, int depth) {
            if (peek() != '{' || open == 8) throw new Fault(at);
            at++;
            while (true) {
                if (node.by.containsKey(peek())) throw new Fault(at);
                char label = letter();
                need(':');
                node.by.put(label, protocol(inside, open + 1, depth));
                if (peek() == '}') break;
                if (node.by.size() == 6) throw new Fault(at);
                need(',');
            }
            at++;
        }
    }

    static Talk turned(Talk from) {
        return new Parser(text(from.root, true)).whole();
    }

    static String text(Node node, boolean dual) {
        char kind = node.kind;
        if (dual && "!?+&".indexOf(kind) >= 0) kind = "?!&+".charAt("!?+&".indexOf(kind));
        switch (node.kind) {
            case '0': return "0";
            case 'x': return "" + node.letter;
            case '*': return "*" + node.letter + "." + text(node.next, dual);
            case '!':
            case '?': {
                String sort = node.sort == '(' ? "(" + text(node.inner, false) + ")" : "" + node.sort;
                return kind + sort + "." + text(node.next, dual);
            }
            default: {
                StringBuilder all = new StringBuilder();
                for (Map.Entry<Character, Node> one : node.by.entrySet()) {
                    all.append(all.length() == 0 ? "{" : ",").append(one.getKey()).append(':');
                    all.append(text(one.getValue(), dual));
                }
                return kind + all.append('}').toString();
            }
        }
    }

    static Set<Node> reach(Node from, boolean brackets) {
        Set<Node> seen = new java.util.LinkedHashSet<>();
        ArrayDeque<Node> todo = new ArrayDeque<>(List.of(from.state()));
        while (!todo.isEmpty()) {
            Node node = todo.pop();
            if (!seen.add(node)) continue;
            if (node.next != null) todo.push(node.next.state());
            if (brackets && node.inner != null) todo.push(node.inner.state());
            for (Node one : node.by.values()) todo.push(one.state());
        }
        return seen;
    }

    record Pair(Node a, Node b) {
        @Override public boolean equals(Object o) {
            return o instanceof Pair p && p.a == a && p.b == b;
        }

        @Override public int hashCode() {
            return System.identityHashCode(a) * 31 + System.identityHashCode(b);
        }
    }

    /** The greatest relation of which each pair asks only for pairs in it. */
    static Set<Pair> relation(Node x, Node y, boolean alike) {
        Set<Node> all = new java.util.LinkedHashSet<>(reach(x, true));
        all.addAll(reach(y, true));
        Set<Pair> holds = new HashSet<>();
        for (Node a : all) for (Node b : all) if (a.kind == b.kind) holds.add(new Pair(a, b));
        boolean changed = true;
        while (changed) {
            List<Pair> out = new ArrayList<>();
            for (Pair p : holds) if (!stands(p, holds, alike)) out.add(p);
            changed = !out.isEmpty();
            out.forEach(holds::remove);
        }
        return holds;
    }

    static boolean sortsStand(Node a, Node b, Set<Pair> in, boolean alike) {
        if (a.sort != b.sort) return false;
        if (a.sort != '(') return true;
        Pair straight = new Pair(a.inner.state(), b.inner.state());
        Pair back = new Pair(b.inner.state(), a.inner.state());
        return in.contains(!alike && a.kind == '!' ? back : straight);
    }

    static boolean labelsStand(Node a, Node b, boolean alike) {
        Set<Character> one = a.by.keySet();
        Set<Character> other = b.by.keySet();
        if (alike) return one.equals(other);
        return a.kind == '+' ? other.containsAll(one) : one.containsAll(other);
    }

    static boolean stands(Pair p, Set<Pair> in, boolean alike) {
        Node a = p.a;
        Node b = p.b;
        if (a.kind == '0') return true;
        if (a.kind == '!' || a.kind == '?') {
            return sortsStand(a, b, in, alike) && in.contains(new Pair(a.next.state(), b.next.state()));
        }
        if (!labelsStand(a, b, alike)) return false;
        for (char label : a.by.keySet()) {
            if (!b.by.containsKey(label)) continue;
            if (!in.contains(new Pair(a.by.get(label).state(), b.by.get(label).state()))) return false;
        }
        return true;
    }

    static boolean related(Node x, Node y, boolean alike) {
        return relation(x, y, alike).contains(new Pair(x.state(), y.state()));
    }

    /** null: the first FITS the second. Each pair's own WITNESS is made better till none can be. */
    static String witness(Node x, Node y) {
        Set<Pair> fits = relation(x, y, false);
        Map<Pair, String> best = new LinkedHashMap<>();
        boolean changed = true;
        while (changed) {
            changed = false;
            for (Node a : reach(x, false)) {
                for (Node b : reach(y, false)) {
                    String now = oneWitness(a, b, fits, best);
                    Pair p = new Pair(a, b);
                    if (now != null && !now.equals(best.get(p))) {
                        best.put(p, now);
                        changed = true;
                    }
                }
            }
        }
        return best.get(new Pair(x.state(), y.state()));
    }

    private static String oneWitness(Node a, Node b, Set<Pair> fits, Map<Pair, String> best) {
        if (a.kind != b.kind) return "\1";
        if (a.kind == '0') return null;
        if (a.kind == '!' || a.kind == '?') {
            if (!sortsStand(a, b, fits, false)) return "\2";
            String rest = best.get(new Pair(a.next.state(), b.next.state()));
            return rest == null ? null : "." + rest;
        }
        if (!labelsStand(a, b, false)) return "\3";
        String found = null;
        for (char label : a.by.keySet()) {
            if (!b.by.containsKey(label)) continue;
            String rest = best.get(new Pair(a.by.get(label).state(), b.by.get(label).state()));
            if (rest == null) continue;
            String one = label + rest;
            boolean better = found == null || one.length() < found.length()
                || one.length() == found.length() && one.compareTo(found) < 0;
            if (better) found = one;
        }
        return found;
    }

    static int longest(Node node, String kinds, Set<Node> on) {
        if (kinds.indexOf(node.kind) < 0) return 0;
        if (!on.add(node)) return 1000000;
        int most = 0;
        if (node.next != null) most = longest(node.next.state(), kinds, on);
        for (Node one : node.by.values()) most = Math.max(most, longest(one.state(), kinds, on));
        on.remove(node);
        return Math.min(1000000, 1 + most);
    }

    // ---- the object

    static final class End {
        int holder;
        Node state;
        boolean ended;
        int endStep;
        int most;
        List<Integer> line = new ArrayList<>();

        End copy() {
            End made = new End();
            made.holder = holder;
            made.state = state;
            made.ended = ended;
            made.endStep = endStep;
            made.most = most;
            made.line = new ArrayList<>(line);
            return made;
        }
    }

    record Act(int end, char sign, int value) { }

    static final class Kept {
        List<End> ends = new ArrayList<>();
        List<List<Act>> plans = new ArrayList<>(List.of(List.of(), List.of(), List.of(), List.of()));
        int size = 2;
        int[] led = new int[6];
        int[] blame;

        Kept copy() {
            Kept made = new Kept();
            for (End one : ends) made.ends.add(one.copy());
            made.plans = new ArrayList<>(plans);
            made.size = size;
            made.led = led.clone();
            made.blame = blame;
            return made;
        }
    }

    final Talk[] talks = new Talk[16];
    String tape = "";
    Kept now = new Kept();
    Kept image;

    Talk at(int k) {
        return k < 0 || k > 15 ? null : talks[k];
    }

    int feed(int letter) {
        if (letter < 1 || letter > 255) return BAD;
        if (tape.length() == 200) return FULL;
        tape += (char) letter;
        return tape.length();
    }

    int define(int k) {
        if (k < 0 || k > 15) return BAD;
        String text = tape;
        tape = "";
        try {
            talks[k] = new Parser(text).whole();
            return talks[k].nodes.size();
        } catch (Fault fault) {
            return -100 - fault.place;
        }
    }

    int dual(int k, int into) {
        if (at(k) == null || into < 0 || into > 15) return BAD;
        talks[into] = turned(talks[k]);
        return talks[into].nodes.size();
    }

    private static int byteOf(String text, int i) {
        if (i == -1) return text.length();
        return i < text.length() ? text.charAt(i) : NOT;
    }

    int spell(int k, int i) {
        return at(k) == null || i < -1 ? BAD : byteOf(text(at(k).root, false), i);
    }

    int ask(int k, int what) {
        Talk talk = at(k);
        if (talk == null || what < 0 || what > 5) return BAD;
        Set<Node> states = reach(talk.root, false);
        if (what == 0) return talk.nodes.size();
        if (what == 1) return states.size();
        if (what == 3) return talk.brackets;
        if (what == 4) return talk.root.state().number();
        if (what == 5) return talk.root.state().bits();
        Set<Pair> same = relation(talk.root, talk.root, true);
        List<Node> unlike = new ArrayList<>();
        for (Node one : states) {
            if (unlike.stream().noneMatch(other -> same.contains(new Pair(one, other)))) unlike.add(one);
        }
        return unlike.size();
    }

    int same(int j, int k) {
        if (at(j) == null || at(k) == null) return BAD;
        return related(at(j).root, at(k).root, true) ? 1 : 0;
    }

    int fits(int j, int k) {
        if (at(j) == null || at(k) == null) return BAD;
        return related(at(j).root, at(k).root, false) ? 1 : 0;
    }

    int witness(int j, int k, int i) {
        if (at(j) == null || at(k) == null || i < -1) return BAD;
        String found = witness(at(j).root, at(k).root);
        return found == null ? NOT : byteOf(found, i);
    }

    int bound(int k, int side) {
        if (at(k) == null || side < 0 || side > 1) return BAD;
        int most = 0;
        for (Node one : reach(at(k).root, false)) {
            most = Math.max(most, longest(one, side == 0 ? "!+" : "?&", new HashSet<>()));
        }
        return most >= 1000000 ? NOT : most;
    }

    /** A LETTER is a SEND's Node or a Character. */
    record Place(Node[] at, List<List<Object>> lines, int moves) {
        String key() {
            StringBuilder key = new StringBuilder();
            for (Node one : at) key.append(System.identityHashCode(one)).append(' ');
            for (List<Object> line : lines) {
                key.append('|');
                for (Object one : line) {
                    key.append(one instanceof Node ? System.identityHashCode(one) : "=" + one).append(' ');
                }
            }
            return key.toString();
        }

        Place moved(int party, Node behind, Object sent) {
            Node[] states = at.clone();
            states[party] = behind.state();
            List<List<Object>> all = new ArrayList<>();
            for (List<Object> line : lines) all.add(new ArrayList<>(line));
            if (sent != null) all.get(party).add(sent);
            else all.get(1 - party).remove(0);
            return new Place(states, all, moves + 1);
        }
    }

    static boolean mayGoOff(Object letter, Node taker) {
        if (letter instanceof Node send) {
            if (taker.kind != '?' || send.sort != taker.sort) return false;
            return send.sort != '(' || related(taker.inner, send.inner, false);
        }
        return taker.kind == '&' && taker.by.containsKey((Character) letter);
    }

    int meet(int j, int k, int n, int what) {
        if (at(j) == null || at(k) == null || n < 1 || n > 2 || what < 0 || what > 4) return BAD;
        Node[] first = {at(j).root.state(), at(k).root.state()};
        Place start = new Place(first, List.of(List.of(), List.of()), 0);
        ArrayDeque<Place> todo = new ArrayDeque<>(List.of(start));
        Set<String> seen = new HashSet<>(Set.of(start.key()));
        int[] told = {0, 0, 0, NOT, 0};
        while (!todo.isEmpty()) {
            Place place = todo.poll();
            told[0]++;
            told[4] = Math.max(told[4], Math.max(place.lines.get(0).size(), place.lines.get(1).size()));
            List<Place> next = new ArrayList<>();
            boolean clash = false;
            for (int party = 0; party < 2; party++) clash |= !moves(place, party, n, next);
            boolean over = place.at[0].kind == '0' && place.at[1].kind == '0'
                && place.lines.get(0).isEmpty() && place.lines.get(1).isEmpty();
            if (clash) told[2]++;
            else if (next.isEmpty() && !over) told[1]++;
            if ((clash || next.isEmpty() && !over) && told[3] < 0) told[3] = place.moves;
            if (clash) continue;
            for (Place one : next) if (seen.add(one.key())) todo.add(one);
            if (seen.size() > 3000) return FULL;
        }
        return told[what];
    }

    /** false: a CLASH. */
    private static boolean moves(Place place, int party, int n, List<Place> next) {
        Node node = place.at[party];
        List<Object> to = place.lines.get(1 - party);
        boolean room = place.lines.get(party).size() < n;
        if (node.kind == '!' && room) next.add(place.moved(party, node.next, node));
        if (node.kind == '+' && room) {
            node.by.forEach((label, one) -> next.add(place.moved(party, one, label)));
        }
        if ("?&".indexOf(node.kind) < 0 || to.isEmpty()) return true;
        Object letter = to.get(0);
        if (!mayGoOff(letter, node)) return false;
        next.add(place.moved(party, node.kind == '?' ? node.next : node.by.get((Character) letter), null));
        return true;
    }

    // ---- sessions

    int open(int k, int p, int q) {
        if (at(k) == null || p < 0 || p > 3 || q < 0 || q > 3) return BAD;
        if (now.ends.size() == 16) return FULL;
        int[] parties = {p, q};
        for (int i = 0; i < 2; i++) {
            End made = new End();
            made.holder = parties[i];
            made.state = (i == 0 ? talks[k] : turned(talks[k])).root.state();
            now.ends.add(made);
        }
        return now.ends.size() / 2 - 1;
    }

    int size(int n) {
        if (n < 1 || n > 4) return BAD;
        int was = now.size;
        now.size = n;
        return was;
    }

    boolean there(int end) {
        return end >= 0 && end < now.ends.size();
    }

    /** The CAUSES with the number of the BREACH ahead of them; null: none. */
    int[] breach(int party, int end, char sign, boolean bracket, int value) {
        End at = now.ends.get(end);
        Node state = at.state;
        if (at.holder != party) return new int[] {1, at.holder};
        if (at.ended) return new int[] {2, at.endStep};
        if (state.kind != sign || bracket != (state.sort == '(')) {
            return new int[] {3, state.number(), "0!?+&".indexOf(sign)};
        }
        if (sign == '!' && bracket) {
            End gift = now.ends.get(value);
            if (value == end || gift.holder != party || gift.ended) return new int[] {4, value};
            String hindered = witness(state.inner, gift.state);
            if (hindered != null) {
                return new int[] {5, value, hindered.charAt(hindered.length() - 1), hindered.length()};
            }
        }
        if (sign == '!' && !bracket && (value < 0 || value > (state.sort == 'b' ? 1 : 999))) return new int[] {4, value};
        if (sign == '+' && (value < 'a' || value > 'z' || !state.by.containsKey((char) value))) return new int[] {4, value};
        return null;
    }

    boolean waits(int end, char sign) {
        if ("!+".indexOf(sign) >= 0) return now.ends.get(end ^ 1).line.size() >= now.size;
        return "?&".indexOf(sign) >= 0 && now.ends.get(end).line.isEmpty();
    }

    int act(int party, int end, char sign, boolean bracket, int value) {
        if (party < 0 || party > 3 || !there(end) || sign == '!' && bracket && !there(value)) return BAD;
        now.led[0]++;
        int[] broken = breach(party, end, sign, bracket, value);
        if (broken != null) {
            now.led[3]++;
            now.blame = new int[] {party, now.led[0], broken[0], end, broken.length - 1, NOT, NOT, NOT};
            System.arraycopy(broken, 1, now.blame, 5, broken.length - 1);
            return BREACH;
        }
        if (waits(end, sign)) {
            now.led[2]++;
            return WAITS;
        }
        now.led[1]++;
        End at = now.ends.get(end);
        Node state = at.state;
        int letter = value;
        if (sign == '0') {
            at.ended = true;
            at.endStep = now.led[0];
            now.led[5]++;
            return 1;
        }
        if ("!+".indexOf(sign) >= 0) {
            End other = now.ends.get(end ^ 1);
            other.line.add(value);
            other.most = Math.max(other.most, other.line.size());
        } else {
            letter = at.line.remove(0);
        }
        if (bracket && sign == '!') {
            End gift = now.ends.get(letter);
            gift.holder = 9;
            gift.state = state.inner.state();
            now.led[4]++;
        }
        if (bracket && sign == '?') now.ends.get(letter).holder = party;
        at.state = (state.next != null ? state.next : state.by.get((char) letter)).state();
        return "!+".indexOf(sign) >= 0 ? 1 : letter;
    }

    int say(int party, int end, int v) {
        return act(party, end, '!', false, v);
    }

    int hear(int party, int end) {
        return act(party, end, '?', false, 0);
    }

    int choose(int party, int end, int label) {
        return act(party, end, '+', false, label);
    }

    int offered(int party, int end) {
        return act(party, end, '&', false, 0);
    }

    int give(int party, int end, int given) {
        return act(party, end, '!', true, given);
    }

    int take(int party, int end) {
        return act(party, end, '?', true, 0);
    }

    int end(int party, int end) {
        return act(party, end, '0', false, 0);
    }

    int look(int end, int what) {
        if (!there(end) || what < 0 || what > 5) return BAD;
        End one = now.ends.get(end);
        int[] told = {one.holder, one.state.number(), one.state.bits(), one.line.size(), one.most, one.ended ? 1 : 0};
        return told[what];
    }

    int blame(int what) {
        if (what < 0 || what > 7) return BAD;
        return now.blame == null ? STATE : now.blame[what];
    }

    // ---- plans

    static final class PlanParser {
        final String text;
        int at;

        PlanParser(String text) {
            this.text = text;
        }

        char peek() {
            return at < text.length() ? text.charAt(at) : (char) 0;
        }

        int number(int most, int figures) {
            int from = at;
            while (at - from < figures && peek() >= '0' && peek() <= '9') at++;
            if (at == from) throw new Fault(at);
            if (new java.math.BigInteger(text.substring(from, at)).compareTo(java.math.BigInteger.valueOf(most)) > 0) {
                throw new Fault(from);
            }
            return Integer.parseInt(text.substring(from, at));
        }

        List<Act> whole() {
            List<Act> acts = new ArrayList<>();
            while (true) {
                if (acts.size() == 24) throw new Fault(at);
                int end = number(15, 2);
                char sign = peek();
                if (sign == 0 || "!?+&>.".indexOf(sign) < 0) throw new Fault(at);
                at++;
                int value = 0;
                if (sign == '!') value = number(999, 300);
                if (sign == '>') value = number(15, 2);
                if (sign == '+') {
                    value = peek();
                    if (value < 'a' || value > 'z') throw new Fault(at);
                    at++;
                }
                acts.add(new Act(end, sign, value));
                if (at == text.length()) return acts;
                if (peek() != ',') throw new Fault(at);
                at++;
            }
        }
    }

    int plan(int party) {
        if (party < 0 || party > 3) return BAD;
        String text = tape;
        tape = "";
        try {
            List<Act> acts = new PlanParser(text).whole();
            now.plans.set(party, acts);
            return acts.size();
        } catch (Fault fault) {
            return -100 - fault.place;
        }
    }

    /** The sign by which act() knows an ACT. */
    private static char signOf(Act act) {
        switch (act.sign) {
            case '>': return '!';
            case '.': return '0';
            default: return act.sign;
        }
    }

    private boolean isOfBrackets(Act act) {
        Node state = now.ends.get(act.end).state;
        return act.sign == '>' || act.sign == '?' && state.kind == '?' && state.sort == '(';
    }

    int run(int seed, int n) {
        if (n < 1 || n > 200) return BAD;
        int z = seed;
        int done = 0;
        for (int turn = 0; turn < n; turn++) {
            z = z * 1103515245 + 12345;
            int party = (z >>> 9) % 4;
            List<Act> rest = now.plans.get(party);
            if (rest.isEmpty()) continue;
            Act act = rest.get(0);
            int answer = BAD;
            if (there(act.end)) answer = act(party, act.end, signOf(act), isOfBrackets(act), act.value);
            if (answer == WAITS) continue;
            if (answer >= 0) done++;
            now.plans.set(party, answer < 0 ? List.of() : rest.subList(1, rest.size()));
        }
        return done;
    }

    int left(int party) {
        return party < 0 || party > 3 ? BAD : now.plans.get(party).size();
    }

    int waiting() {
        int bits = 0;
        for (int party = 0; party < 4; party++) {
            if (now.plans.get(party).isEmpty()) continue;
            Act act = now.plans.get(party).get(0);
            if (!there(act.end) || act.sign == '>' && !there(act.value)) continue;
            boolean breaks = breach(party, act.end, signOf(act), isOfBrackets(act), act.value) != null;
            if (!breaks && waits(act.end, signOf(act))) bits |= 1 << party;
        }
        return bits;
    }

    int image() {
        image = now.copy();
        return now.led[0];
    }

    int back() {
        if (image == null) return STATE;
        now = image.copy();
        return now.led[0];
    }

    int led(int what) {
        return what < 0 || what > 5 ? BAD : now.led[what];
    }

    int count(int what) {
        int[] told = new int[7];
        for (Talk one : talks) if (one != null) told[0]++;
        told[1] = now.ends.size() / 2;
        told[2] = tape.length();
        for (int i = 0; i < now.ends.size(); i += 2) {
            if (now.ends.get(i).ended && now.ends.get(i + 1).ended) told[3]++;
        }
        for (End one : now.ends) {
            told[4] += one.line.size();
            if (one.holder == 9) told[6]++;
        }
        told[5] = now.size;
        return what < 0 || what > 6 ? BAD : told[what];
    }
}
