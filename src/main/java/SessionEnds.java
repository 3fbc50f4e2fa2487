import java.util.Arrays;

/** Talks by protocols: see ../shared/DOC.md; the words in capitals here are that page's. */
public final class SessionEnds {
    public static final int BAD = -1, NOT = -2, FULL = -3, WAITS = -4, STATE = -5, BREACH = -6;

    // Kinds of NODES; the first five are those of STATES, numbered as THE BLAME tells them.
    private static final int END = 0, SEND = 1, TAKE = 2, CHOOSE = 3, OFFER = 4, LOOP = 5, AGAIN = 6;

    // Acts: up to OFFERED an act has the number of the STATE it is for; GIVE and TAKE_END are 4 above theirs.
    private static final int CLOSE = 0, SAY = 1, HEAR = 2, PICK = 3, OFFERED = 4, GIVE = 5, TAKE_END = 6;
    private static final int BRACKET_ACTS = 4;

    private static final int NODES = 60, LABELS = 6, OPENED = 8, TAPE = 200, LETTERS = 26;
    private static final int PROTOCOLS = 16, SESSIONS = 8, ENDS = 16, PARTIES = 4, NOBODY = 9;
    private static final int LINE = 4, NUMBERS = 999, ACTS = 24, CAUSES = 3, TURNS = 200;
    private static final int PLACES = 3000, SLOTS = 8192, FAULT = -100;

    private final Protocol[] protocols = new Protocol[PROTOCOLS];
    private final int[] tape = new int[TAPE];
    private int onTape;
    private final Reader reader = new Reader();
    private final PlanReader planReader = new PlanReader();
    private final Speller speller = new Speller();
    private final Compare compare = new Compare();
    private final Hindrance hindrance = new Hindrance(compare);
    private final Meeting meeting = new Meeting(compare);
    private final int[] nodeRow = new int[NODES];
    private final Room now = new Room();
    private final Room kept = new Room();
    private boolean isKept;

    public SessionEnds() {
    }

    // ---- protocols

    public int feed(int letter) {
        if (letter < 1 || letter > 255) return BAD;
        if (onTape < 0 || onTape >= tape.length) return FULL;
        tape[onTape] = letter;
        onTape++;
        return onTape;
    }

    public int define(int k) {
        if (k < 0 || k >= protocols.length) return BAD;
        int fault = reader.read(tape, onTape);
        onTape = 0;
        if (fault >= 0) return FAULT - fault;
        Protocol made = new Protocol(reader.draft);
        protocols[k] = made;
        return made.nodes;
    }

    public int dual(int k, int into) {
        Protocol from = protocolAt(k);
        if (from == null || into < 0 || into >= protocols.length) return BAD;
        Protocol made = from.turned();
        protocols[into] = made;
        return made.nodes;
    }

    public int spell(int k, int i) {
        Protocol talk = protocolAt(k);
        if (talk == null || i < -1) return BAD;
        speller.write(talk);
        return i < 0 ? speller.length : i < speller.length && i < TAPE ? speller.text[i] : NOT;
    }

    public int ask(int k, int what) {
        Protocol talk = protocolAt(k);
        if (talk == null) return BAD;
        switch (what) {
            case 0: return talk.nodes;
            case 1: return talk.statesOutside();
            case 2: return unlikeStates(talk);
            case 3: return talk.deepest();
            case 4: return talk.kindOf(talk.beginning());
            case 5: return talk.labelsOf(talk.beginning());
            default: return BAD;
        }
    }

    public int same(int j, int k) {
        Protocol one = protocolAt(j);
        Protocol other = protocolAt(k);
        if (one == null || other == null) return BAD;
        return compare.holds(one, one.beginning(), other, other.beginning(), true) ? 1 : 0;
    }

    public int fits(int j, int k) {
        Protocol one = protocolAt(j);
        Protocol other = protocolAt(k);
        if (one == null || other == null) return BAD;
        return compare.holds(one, one.beginning(), other, other.beginning(), false) ? 1 : 0;
    }

    public int witness(int j, int k, int i) {
        Protocol one = protocolAt(j);
        Protocol other = protocolAt(k);
        if (one == null || other == null || i < -1) return BAD;
        int length = hindrance.find(one, one.beginning(), other, other.beginning());
        if (length == 0) return NOT;
        return i < 0 ? length : i < length && i < hindrance.text.length ? hindrance.text[i] : NOT;
    }

    public int bound(int k, int side) {
        Protocol talk = protocolAt(k);
        if (talk == null || side < 0 || side > 1) return BAD;
        return talk.longestRow(side, nodeRow);
    }

    public int meet(int j, int k, int n, int what) {
        Protocol one = protocolAt(j);
        Protocol other = protocolAt(k);
        if (one == null || other == null || n < 1 || n > 2 || what < 0 || what > 4) return BAD;
        if (!meeting.explore(one, other, n)) return FULL;
        switch (what) {
            case 0: return meeting.found;
            case 1: return meeting.jams;
            case 2: return meeting.clashes;
            case 3: return meeting.fewest;
            default: return meeting.most;
        }
    }

    // ---- sessions

    public int open(int k, int p, int q) {
        Protocol talk = protocolAt(k);
        if (talk == null || !isParty(p) || !isParty(q)) return BAD;
        int session = now.sessions;
        int first = 2 * session;
        if (session < 0 || session >= SESSIONS || first + 1 >= now.ends.length) return FULL;
        now.ends[first].start(p, talk);
        now.ends[first + 1].start(q, talk.turned());
        now.sessions = session + 1;
        return session;
    }

    public int size(int n) {
        if (n < 1 || n > LINE) return BAD;
        int was = now.room;
        now.room = n;
        return was;
    }

    public int say(int party, int end, int v) {
        return isParty(party) && isEnd(end) ? enact(party, end, SAY, v) : BAD;
    }

    public int hear(int party, int end) {
        return isParty(party) && isEnd(end) ? enact(party, end, HEAR, 0) : BAD;
    }

    public int choose(int party, int end, int label) {
        return isParty(party) && isEnd(end) ? enact(party, end, PICK, label) : BAD;
    }

    public int offered(int party, int end) {
        return isParty(party) && isEnd(end) ? enact(party, end, OFFERED, 0) : BAD;
    }

    public int give(int party, int end, int given) {
        return isParty(party) && isEnd(end) && isEnd(given) ? enact(party, end, GIVE, given) : BAD;
    }

    public int take(int party, int end) {
        return isParty(party) && isEnd(end) ? enact(party, end, TAKE_END, 0) : BAD;
    }

    public int end(int party, int end) {
        return isParty(party) && isEnd(end) ? enact(party, end, CLOSE, 0) : BAD;
    }

    public int look(int end, int what) {
        if (!isEnd(end) || end >= now.ends.length) return BAD;
        End seen = now.ends[end];
        switch (what) {
            case 0: return seen.holder;
            case 1: return seen.kind();
            case 2: return seen.labels();
            case 3: return seen.lying;
            case 4: return seen.most;
            case 5: return seen.ended ? 1 : 0;
            default: return BAD;
        }
    }

    public int blame(int what) {
        if (what < 0 || what > 4 + CAUSES) return BAD;
        Blame latest = now.latest;
        if (latest.number == 0) return STATE;
        switch (what) {
            case 0: return latest.party;
            case 1: return latest.step;
            case 2: return latest.number;
            case 3: return latest.end;
            case 4: return latest.causes;
            default: return latest.causeAt(what - 5);
        }
    }

    // ---- plans

    public int plan(int party) {
        if (!isParty(party) || party >= now.plans.length) return BAD;
        int fault = planReader.read(tape, onTape);
        onTape = 0;
        if (fault >= 0) return FAULT - fault;
        now.plans[party].become(planReader.draft);
        return planReader.draft.acts;
    }

    public int run(int seed, int n) {
        if (n < 1 || n > TURNS) return BAD;
        int z = seed;
        int done = 0;
        for (int turn = 0; turn < n; turn++) {
            z = z * 1103515245 + 12345;
            if (takeTurn((z >>> 9) % PARTIES)) done++;
        }
        return done;
    }

    public int left(int party) {
        if (!isParty(party) || party >= now.plans.length) return BAD;
        return now.plans[party].rest();
    }

    public int waiting() {
        int bits = 0;
        for (int party = 0; party < PARTIES; party++) {
            if (wouldWait(party)) bits |= 1 << party;
        }
        return bits;
    }

    // ---- the image, what was done

    public int image() {
        kept.become(now);
        isKept = true;
        return now.steps;
    }

    public int back() {
        if (!isKept) return STATE;
        now.become(kept);
        return now.steps;
    }

    public int led(int what) {
        switch (what) {
            case 0: return now.steps;
            case 1: return now.done;
            case 2: return now.waited;
            case 3: return now.breaches;
            case 4: return now.given;
            case 5: return now.ended;
            default: return BAD;
        }
    }

    public int count(int what) {
        switch (what) {
            case 0: return protocolsThere();
            case 1: return now.sessions;
            case 2: return onTape;
            case 3: return now.sessionsOver();
            case 4: return now.lettersLying();
            case 5: return now.room;
            case 6: return now.endsUnheld();
            default: return BAD;
        }
    }

    // ---- what is told from outside

    private Protocol protocolAt(int k) {
        return k >= 0 && k < protocols.length ? protocols[k] : null;
    }

    private int protocolsThere() {
        int there = 0;
        for (int k = 0; k < protocols.length; k++) {
            if (protocols[k] != null) there++;
        }
        return there;
    }

    private boolean isParty(int party) {
        return party >= 0 && party < PARTIES;
    }

    private boolean isEnd(int end) {
        return end >= 0 && end < 2 * now.sessions && end < ENDS;
    }

    private int unlikeStates(Protocol talk) {
        int unlike = 0;
        for (int node = 0; node < talk.nodes; node++) {
            if (!talk.isStateOutside(node) || isLikeOneOf(talk, node, unlike)) continue;
            if (unlike < nodeRow.length) nodeRow[unlike] = node;
            unlike++;
        }
        return unlike;
    }

    private boolean isLikeOneOf(Protocol talk, int node, int unlike) {
        for (int i = 0; i < unlike && i < nodeRow.length; i++) {
            if (compare.holds(talk, nodeRow[i], talk, node, true)) return true;
        }
        return false;
    }

    // ---- the monitor

    /** Takes a PARTY and ENDS that are there. */
    private int enact(int party, int end, int act, int value) {
        now.steps++;
        int found = judge(party, end, act, value);
        if (found == WAITS) {
            now.waited++;
            return WAITS;
        }
        if (found != 0) {
            now.breaches++;
            accuse(party, end, act, value, found);
            return BREACH;
        }
        now.done++;
        return perform(party, end, act, value);
    }

    /** 0: the ACT may be done now; WAITS; or the number of the BREACH that it would be. Changes nothing. */
    private int judge(int party, int end, int act, int value) {
        if (end < 0 || end >= now.ends.length) return 1;
        End at = now.ends[end];
        if (at.holder != party) return 1;
        if (at.ended) return 2;
        if (at.talk == null || at.kind() != kindFor(act)) return 3;
        if (at.isAtBrackets() != act > BRACKET_ACTS) return 3;
        if (act == SAY && !at.maySay(value)) return 4;
        if (act == PICK && !at.mayPick(value)) return 4;
        if (act == GIVE) {
            if (!mayBeGiven(party, end, value)) return 4;
            End gift = now.ends[value];
            if (hindrance.find(at.talk, at.talk.innerOf(at.node), gift.talk, gift.node) != 0) return 5;
        }
        return waitsFor(end, act) ? WAITS : 0;
    }

    private static int kindFor(int act) {
        return act > BRACKET_ACTS ? act - BRACKET_ACTS : act;
    }

    private boolean mayBeGiven(int party, int end, int given) {
        if (given == end || given < 0 || given >= now.ends.length) return false;
        End gift = now.ends[given];
        return gift.holder == party && !gift.ended && gift.talk != null;
    }

    private boolean waitsFor(int end, int act) {
        int facing = end ^ 1;
        if (end < 0 || end >= now.ends.length || facing < 0 || facing >= now.ends.length) return false;
        switch (kindFor(act)) {
            case SEND:
            case CHOOSE: return now.ends[facing].lying >= now.room;
            case TAKE:
            case OFFER: return now.ends[end].lying == 0;
            default: return false;
        }
    }

    private void accuse(int party, int end, int act, int value, int number) {
        if (end < 0 || end >= now.ends.length) return;
        End at = now.ends[end];
        Blame latest = now.latest;
        latest.begin(party, now.steps, number, end);
        switch (number) {
            case 1: latest.add(at.holder); break;
            case 2: latest.add(at.endStep); break;
            case 3: latest.add(at.kind()); latest.add(kindFor(act)); break;
            case 4: latest.add(value); break;
            default:
                latest.add(value);
                latest.add(hindrance.last());
                latest.add(hindrance.length);
                break;
        }
    }

    /** Does an ACT that has been judged to be one that may be done. */
    private int perform(int party, int end, int act, int value) {
        int facing = end ^ 1;
        if (end < 0 || end >= now.ends.length || facing < 0 || facing >= now.ends.length) return BAD;
        End at = now.ends[end];
        if (at.talk == null) return BAD;
        if (act == CLOSE) {
            at.ended = true;
            at.endStep = now.steps;
            now.ended++;
            return 1;
        }
        int kind = at.kind();
        boolean isSent = kind == SEND || kind == CHOOSE;
        int letter = isSent ? value : at.draw();
        if (isSent) now.ends[facing].put(letter);
        if (act == GIVE) handOver(at, letter);
        if (act == TAKE_END) receive(party, letter);
        at.node = at.talk.behind(at.node, letter - 'a');
        return isSent ? 1 : letter;
    }

    private void handOver(End at, int given) {
        if (given < 0 || given >= now.ends.length || at.talk == null) return;
        End gift = now.ends[given];
        gift.holder = NOBODY;
        gift.node = at.talk.innerOf(at.node);
        gift.talk = at.talk;
        now.given++;
    }

    private void receive(int party, int given) {
        if (given < 0 || given >= now.ends.length) return;
        now.ends[given].holder = party;
    }

    // ---- turns of plans

    /** Whether the PARTY did an ACT of its PLAN. */
    private boolean takeTurn(int party) {
        if (party < 0 || party >= now.plans.length) return false;
        Plan plan = now.plans[party];
        if (plan.rest() == 0) return false;
        int act = nextAct(plan);
        if (act < 0) {
            plan.drop();
            return false;
        }
        int answer = enact(party, plan.nextEnd(), act, plan.nextValue());
        if (answer == WAITS) return false;
        if (answer == BREACH) {
            plan.drop();
            return false;
        }
        plan.next++;
        return true;
    }

    private boolean wouldWait(int party) {
        if (party < 0 || party >= now.plans.length) return false;
        Plan plan = now.plans[party];
        if (plan.rest() == 0) return false;
        int act = nextAct(plan);
        return act >= 0 && judge(party, plan.nextEnd(), act, plan.nextValue()) == WAITS;
    }

    /** The next ACT of a PLAN; -1: an END of it is not there. */
    private int nextAct(Plan plan) {
        int end = plan.nextEnd();
        if (!isEnd(end) || end >= now.ends.length) return -1;
        switch (plan.nextSign()) {
            case '!': return SAY;
            case '?': return now.ends[end].isAtBrackets() && now.ends[end].kind() == TAKE ? TAKE_END : HEAR;
            case '+': return PICK;
            case '&': return OFFERED;
            case '>': return isEnd(plan.nextValue()) ? GIVE : -1;
            default: return CLOSE;
        }
    }

    /** One PROTOCOL. A made one is never changed again, so that SESSIONS go on by it whatever define() does. */
    private static final class Protocol {
        int nodes;
        final int[] kind;
        final int[] sort;
        final int[] letter;
        final int[] labels;
        final int[] deep;
        final int[] inner;
        final int[] branch;
        final int[] state;

        /** An empty one, for a Reader to write on. */
        Protocol() {
            kind = new int[NODES];
            sort = new int[NODES];
            letter = new int[NODES];
            labels = new int[NODES];
            deep = new int[NODES];
            inner = new int[NODES];
            branch = new int[NODES * LABELS];
            state = new int[NODES];
        }

        Protocol(Protocol from) {
            int many = from.nodes < 0 ? 0 : from.nodes > NODES ? NODES : from.nodes;
            nodes = many;
            kind = Arrays.copyOf(from.kind, many);
            sort = Arrays.copyOf(from.sort, many);
            letter = Arrays.copyOf(from.letter, many);
            labels = Arrays.copyOf(from.labels, many);
            deep = Arrays.copyOf(from.deep, many);
            inner = Arrays.copyOf(from.inner, many);
            branch = Arrays.copyOf(from.branch, many * LABELS);
            state = Arrays.copyOf(from.state, many);
        }

        Protocol turned() {
            Protocol made = new Protocol(this);
            for (int node = 0; node < made.kind.length && node < made.deep.length; node++) {
                if (made.deep[node] == 0) made.kind[node] = turnedKind(made.kind[node]);
            }
            return made;
        }

        private static int turnedKind(int kind) {
            switch (kind) {
                case SEND: return TAKE;
                case TAKE: return SEND;
                case CHOOSE: return OFFER;
                case OFFER: return CHOOSE;
                default: return kind;
            }
        }

        int kindOf(int node) {
            return node >= 0 && node < kind.length ? kind[node] : END;
        }

        int sortOf(int node) {
            return node >= 0 && node < sort.length ? sort[node] : 0;
        }

        int letterOf(int node) {
            return node >= 0 && node < letter.length ? letter[node] : 0;
        }

        int labelsOf(int node) {
            return node >= 0 && node < labels.length ? labels[node] : 0;
        }

        int innerNode(int node) {
            return node >= 0 && node < inner.length ? inner[node] : -1;
        }

        /** The NODE behind, as it is written: AGAIN has its LOOP there. */
        int branchNode(int node, int rank) {
            int place = node * LABELS + rank;
            return node >= 0 && rank >= 0 && rank < LABELS && place < branch.length ? branch[place] : -1;
        }

        int beginning() {
            return state.length > 0 ? state[0] : 0;
        }

        /** The STATE with which the P in the brackets begins. */
        int innerOf(int node) {
            int first = node >= 0 && node < inner.length ? inner[node] : -1;
            return first >= 0 && first < state.length ? state[first] : 0;
        }

        /** The STATE behind; rank: which one of its LABELS, by the letters. */
        int stepOf(int node, int rank) {
            int place = node * LABELS + rank;
            if (node < 0 || rank < 0 || rank >= LABELS || place >= branch.length) return 0;
            int first = branch[place];
            return first >= 0 && first < state.length ? state[first] : 0;
        }

        /** The STATE behind; a SEND, a TAKE has one whatever the LABEL is. */
        int behind(int node, int label) {
            int kind = kindOf(node);
            if (kind == SEND || kind == TAKE) return stepOf(node, 0);
            int bits = labelsOf(node);
            if (label < 0 || label >= LETTERS || (bits >> label & 1) == 0) return node;
            return stepOf(node, Integer.bitCount(bits & (1 << label) - 1));
        }

        boolean isStateOutside(int node) {
            return node >= 0 && node < deep.length && deep[node] == 0 && kindOf(node) <= OFFER;
        }

        int statesOutside() {
            int many = 0;
            for (int node = 0; node < nodes; node++) {
                if (isStateOutside(node)) many++;
            }
            return many;
        }

        int deepest() {
            int most = 0;
            for (int node = 0; node < deep.length; node++) {
                if (deep[node] > most) most = deep[node];
            }
            return most;
        }

        /** BOUND; row: for the longest row that begins at each NODE, as far as it is known. */
        int longestRow(int side, int[] row) {
            Arrays.fill(row, 0);
            int most = 0;
            for (int round = 0; round <= NODES; round++) {
                boolean changed = false;
                for (int node = Math.min(nodes, row.length) - 1; node >= 0; node--) {
                    int length = isStateOutside(node) ? rowFrom(node, side, row) : 0;
                    if (length > row[node]) changed = true;
                    row[node] = length;
                    most = Math.max(most, length);
                }
                // No way without a round is longer than there are NODES.
                if (most > nodes) return NOT;
                if (!changed) return most;
            }
            return NOT;
        }

        private int rowFrom(int node, int side, int[] row) {
            int kind = kindOf(node);
            boolean isOf = side == 0 ? kind == SEND || kind == CHOOSE : kind == TAKE || kind == OFFER;
            if (!isOf) return 0;
            int steps = kind == CHOOSE || kind == OFFER ? Integer.bitCount(labelsOf(node)) : 1;
            int most = 0;
            for (int rank = 0; rank < steps; rank++) {
                int next = stepOf(node, rank);
                if (next >= 0 && next < row.length) most = Math.max(most, row[next]);
            }
            return 1 + most;
        }
    }

    /** Reads a text as a PROTOCOL, from the left; where it stops is the FAULT. */
    private static final class Reader {
        final Protocol draft = new Protocol();
        private final int[] around = new int[NODES];
        private int[] text = new int[0];
        private int length;
        private int at;

        /** -1: the draft is the PROTOCOL; otherwise the FAULT. */
        int read(int[] row, int many) {
            text = row;
            length = Math.min(many, row.length);
            at = 0;
            draft.nodes = 0;
            if (readTalk(-1, 0, 0) < 0 || at < length) return at;
            settle();
            return -1;
        }

        /** The first NODE of a P; -1: a FAULT. before: the NODE ahead of it in the same brackets, -1: none. */
        private int readTalk(int before, int opened, int deep) {
            int first = -1;
            int last = before;
            for (int turn = 0; turn < NODES; turn++) {
                int node = readHead(last, deep);
                if (node < 0) return -1;
                if (first < 0) first = node;
                else link(last, node);
                last = node;
                switch (draft.kindOf(node)) {
                    case END:
                    case AGAIN: return first;
                    case CHOOSE:
                    case OFFER: return readBraces(node, opened, deep) ? first : -1;
                    case LOOP: if (!readLoop(node)) return -1; break;
                    default: if (!readSort(node, opened, deep)) return -1; break;
                }
            }
            return -1;
        }

        private int readHead(int before, int deep) {
            int sign = sign();
            int kind = kindBySign(sign);
            int node = draft.nodes;
            if (kind < 0 || node < 0 || node >= NODES) return -1;
            int loop = kind == AGAIN ? loopAround(before, sign) : -1;
            if (kind == AGAIN && loop < 0) return -1;
            draft.kind[node] = kind;
            draft.sort[node] = 0;
            draft.letter[node] = kind == AGAIN ? sign : 0;
            draft.labels[node] = 0;
            draft.deep[node] = deep;
            draft.inner[node] = -1;
            draft.branch[node * LABELS] = loop;
            around[node] = before;
            draft.nodes = node + 1;
            at++;
            return node;
        }

        private static int kindBySign(int sign) {
            switch (sign) {
                case '0': return END;
                case '!': return SEND;
                case '?': return TAKE;
                case '+': return CHOOSE;
                case '&': return OFFER;
                case '*': return LOOP;
                default: return isLetter(sign) ? AGAIN : -1;
            }
        }

        /** -1: there is none, or there would be nothing but LOOPS since. */
        private int loopAround(int before, int letter) {
            boolean isMore = false;
            int node = before;
            for (int turn = 0; turn < NODES && node >= 0 && node < NODES; turn++) {
                boolean isLoop = draft.kindOf(node) == LOOP;
                if (isLoop && draft.letterOf(node) == letter) return isMore ? node : -1;
                if (!isLoop) isMore = true;
                node = around[node];
            }
            return -1;
        }

        private void link(int node, int next) {
            if (node >= 0 && node < NODES) draft.branch[node * LABELS] = next;
        }

        private boolean readLoop(int node) {
            if (node < 0 || node >= NODES || !isLetter(sign())) return false;
            draft.letter[node] = sign();
            at++;
            return goesOn('.');
        }

        private boolean readSort(int node, int opened, int deep) {
            int sign = sign();
            if (node < 0 || node >= NODES || sign != 'i' && sign != 'b' && sign != '(') return false;
            if (sign == '(' && opened >= OPENED) return false;
            draft.sort[node] = sign;
            at++;
            if (sign == '(') {
                // A LOOP around the brackets doesn't count in them: so no NODE is ahead.
                int first = readTalk(-1, opened + 1, deep + 1);
                if (first < 0 || !goesOn(')')) return false;
                draft.inner[node] = first;
            }
            return goesOn('.');
        }

        private boolean readBraces(int node, int opened, int deep) {
            if (sign() != '{' || opened >= OPENED) return false;
            at++;
            for (int many = 1; many <= LABELS; many++) {
                int sign = sign();
                if (!isLetter(sign) || (draft.labelsOf(node) >> sign - 'a' & 1) != 0) return false;
                at++;
                if (!goesOn(':')) return false;
                int first = readTalk(node, opened + 1, deep);
                if (first < 0) return false;
                addBranch(node, sign - 'a', first);
                if (goesOn('}')) return true;
                if (many == LABELS || !goesOn(',')) return false;
            }
            return false;
        }

        /** Keeps the LABELS of a NODE in the order of the letters. */
        private void addBranch(int node, int label, int first) {
            if (node < 0 || node >= NODES) return;
            int bits = draft.labels[node];
            int many = Math.min(Integer.bitCount(bits), LABELS - 1);
            int rank = Math.min(Integer.bitCount(bits & (1 << label) - 1), many);
            int row = node * LABELS;
            for (int i = many; i > rank; i--) draft.branch[row + i] = draft.branch[row + i - 1];
            draft.branch[row + rank] = first;
            draft.labels[node] = bits | 1 << label;
        }

        /** Finds for each NODE the STATE for which it stands. */
        private void settle() {
            for (int node = 0; node < draft.nodes && node < NODES; node++) {
                int found = node;
                for (int turn = 0; turn < 2 * NODES && draft.kindOf(found) > OFFER; turn++) {
                    found = draft.branchNode(found, 0);
                }
                draft.state[node] = found;
            }
        }

        /** The byte to be read; 0: there is none. */
        private int sign() {
            return at >= 0 && at < length && at < text.length ? text[at] : 0;
        }

        private boolean goesOn(int due) {
            if (sign() != due) return false;
            at++;
            return true;
        }

        private static boolean isLetter(int sign) {
            return sign >= 'a' && sign <= 'z';
        }
    }

    /** Writes the SPELLING of a PROTOCOL. */
    private static final class Speller {
        final int[] text = new int[TAPE];
        int length;

        void write(Protocol talk) {
            length = 0;
            writeTalk(talk, 0, 0);
        }

        private void writeTalk(Protocol talk, int first, int opened) {
            if (opened > OPENED) return;
            int node = first;
            for (int turn = 0; turn < NODES && node >= 0; turn++) {
                switch (talk.kindOf(node)) {
                    case END: put('0'); return;
                    case AGAIN: put(talk.letterOf(node)); return;
                    case LOOP: put('*'); put(talk.letterOf(node)); break;
                    case SEND: put('!'); writeSort(talk, node, opened); break;
                    case TAKE: put('?'); writeSort(talk, node, opened); break;
                    case CHOOSE: put('+'); writeBraces(talk, node, opened); return;
                    default: put('&'); writeBraces(talk, node, opened); return;
                }
                put('.');
                node = talk.branchNode(node, 0);
            }
        }

        private void writeSort(Protocol talk, int node, int opened) {
            put(talk.sortOf(node));
            if (talk.sortOf(node) != '(') return;
            writeTalk(talk, talk.innerNode(node), opened + 1);
            put(')');
        }

        private void writeBraces(Protocol talk, int node, int opened) {
            int bits = talk.labelsOf(node);
            int rank = 0;
            for (int label = 0; label < LETTERS; label++) {
                if ((bits >> label & 1) == 0) continue;
                put(rank == 0 ? '{' : ',');
                put('a' + label);
                put(':');
                writeTalk(talk, talk.branchNode(node, rank), opened + 1);
                rank++;
            }
            put('}');
        }

        private void put(int sign) {
            if (length < 0 || length >= text.length) return;
            text[length] = sign;
            length++;
        }
    }

    /**
     * Whether two STATES are SAME, or one FITS the other. All that either asks for are more pairs of which it
     * must hold too, so one row of pairs is enough, each looked at once; a pair that comes round again holds.
     */
    private static final class Compare {
        private static final int SQUARE = NODES * NODES;
        private final long[] seen = new long[2 * NODES];
        private final int[] pairs = new int[2 * SQUARE];
        private int found;

        boolean holds(Protocol one, int x, Protocol other, int y, boolean alike) {
            Arrays.fill(seen, 0L);
            found = 0;
            add(0, x, y);
            for (int i = 0; i < found && i < pairs.length; i++) {
                int side = pairs[i] / SQUARE;
                int u = pairs[i] / NODES % NODES;
                int v = pairs[i] % NODES;
                Protocol first = side == 0 ? one : other;
                Protocol second = side == 0 ? other : one;
                if (!spread(first, u, second, v, side, alike)) return false;
            }
            return true;
        }

        /** Adds the pairs that (u, v) asks for; false: it can't be so here already. */
        private boolean spread(Protocol first, int u, Protocol second, int v, int side, boolean alike) {
            int kind = first.kindOf(u);
            if (kind != second.kindOf(v) || first.sortOf(u) != second.sortOf(v)) return false;
            if (kind == END) return true;
            if (first.sortOf(u) == '(') {
                boolean turns = kind == SEND && !alike;
                if (turns) add(1 - side, second.innerOf(v), first.innerOf(u));
                else add(side, first.innerOf(u), second.innerOf(v));
            }
            if (kind == SEND || kind == TAKE) {
                add(side, first.stepOf(u, 0), second.stepOf(v, 0));
                return true;
            }
            int p = first.labelsOf(u);
            int q = second.labelsOf(v);
            if (alike ? p != q : !labelsFit(kind, p, q)) return false;
            int i = 0;
            int j = 0;
            for (int label = 0; label < LETTERS; label++) {
                int inFirst = p >> label & 1;
                int inSecond = q >> label & 1;
                if (inFirst + inSecond == 2) add(side, first.stepOf(u, i), second.stepOf(v, j));
                i += inFirst;
                j += inSecond;
            }
            return true;
        }

        static boolean labelsFit(int kind, int p, int q) {
            return kind == CHOOSE ? (p & ~q) == 0 : (q & ~p) == 0;
        }

        private void add(int side, int u, int v) {
            if (u < 0 || u >= NODES || v < 0 || v >= NODES || side < 0 || side > 1) return;
            int row = side * NODES + u;
            if ((seen[row] >> v & 1L) != 0 || found < 0 || found >= pairs.length) return;
            seen[row] |= 1L << v;
            pairs[found] = side * SQUARE + u * NODES + v;
            found++;
        }
    }

    /** Finds the WITNESS: pairs of STATES are come to by the fewest steps first, and of these by their bytes. */
    private static final class Hindrance {
        final int[] text = new int[NODES * NODES + 1];
        int length;
        private final Compare compare;
        private final long[] seen = new long[NODES];
        private final int[] pairs = new int[NODES * NODES];
        private final int[] from = new int[NODES * NODES];
        private final int[] step = new int[NODES * NODES];
        private int found;

        Hindrance(Compare compare) {
            this.compare = compare;
        }

        /** How long the WITNESS is that text holds then; 0: the first FITS the second. */
        int find(Protocol one, int x, Protocol other, int y) {
            Arrays.fill(seen, 0L);
            found = 0;
            length = 0;
            add(x, y, -1, 0);
            for (int i = 0; i < found && i < pairs.length; i++) {
                int u = pairs[i] / NODES;
                int v = pairs[i] % NODES;
                int number = plainHindrance(one, u, other, v);
                if (number == 0 && one.sortOf(u) == '(') {
                    boolean fit = one.kindOf(u) == SEND
                        ? compare.holds(other, other.innerOf(v), one, one.innerOf(u), false)
                        : compare.holds(one, one.innerOf(u), other, other.innerOf(v), false);
                    if (!fit) number = 2;
                }
                if (number != 0) {
                    write(i, number);
                    return length;
                }
                follow(one, u, other, v, i);
            }
            return 0;
        }

        /** As far as it can be seen without a look into brackets. */
        private static int plainHindrance(Protocol one, int u, Protocol other, int v) {
            int kind = one.kindOf(u);
            if (kind != other.kindOf(v)) return 1;
            if (one.sortOf(u) != other.sortOf(v)) return 2;
            if (kind != CHOOSE && kind != OFFER) return 0;
            return Compare.labelsFit(kind, one.labelsOf(u), other.labelsOf(v)) ? 0 : 3;
        }

        private void follow(Protocol one, int u, Protocol other, int v, int here) {
            int kind = one.kindOf(u);
            if (kind == SEND || kind == TAKE) add(one.stepOf(u, 0), other.stepOf(v, 0), here, '.');
            if (kind != CHOOSE && kind != OFFER) return;
            int both = one.labelsOf(u) & other.labelsOf(v);
            for (int label = 0; label < LETTERS; label++) {
                if ((both >> label & 1) == 0) continue;
                add(one.behind(u, label), other.behind(v, label), here, 'a' + label);
            }
        }

        private void add(int u, int v, int before, int by) {
            if (u < 0 || u >= NODES || v < 0 || v >= NODES || found < 0 || found >= pairs.length) return;
            if ((seen[u] >> v & 1L) != 0) return;
            seen[u] |= 1L << v;
            pairs[found] = u * NODES + v;
            from[found] = before;
            step[found] = by;
            found++;
        }

        private void write(int last, int number) {
            int steps = 0;
            int i = last;
            for (int turn = 0; turn < pairs.length && i > 0 && i < from.length; turn++) {
                i = from[i];
                steps++;
            }
            length = steps + 1;
            if (steps < text.length) text[steps] = number;
            i = last;
            for (int place = steps - 1; place >= 0 && i > 0 && i < from.length; place--) {
                if (place < text.length) text[place] = step[i];
                i = from[i];
            }
        }

        int last() {
            return length > 0 && length <= text.length ? text[length - 1] : 0;
        }
    }

    /** Goes through the PLACES of a MEETING, those with the fewest moves first. */
    private static final class Meeting {
        private static final int LETTER = 7, FIRST = (1 << LETTER) - 1, STATES = 6, LAID = 2 * LETTER;
        private static final int HAS_NONE = 0, MAY = 1, CLASHES = 2;
        int found;
        int jams;
        int clashes;
        int fewest;
        int most;
        private final Compare compare;
        private final long[] places = new long[PLACES];
        private final int[] moves = new int[PLACES];
        private final int[] slots = new int[SLOTS];
        private final byte[] fitting = new byte[2 * NODES * NODES];
        private final Protocol[] talks = new Protocol[2];
        private final int[] at = new int[2];
        private final int[] line = new int[2];
        private int room;
        private boolean isOver;

        Meeting(Compare compare) {
            this.compare = compare;
        }

        /** Whether there are no more PLACES than there may be. */
        boolean explore(Protocol one, Protocol other, int n) {
            // A MEETING is mostly asked for several things behind one another, and a PROTOCOL never changes.
            if (talks[0] == one && talks[1] == other && room == n) return !isOver;
            begin(one, other, n);
            reach(0);
            for (int i = 0; i < found && i < PLACES && !isOver; i++) {
                unpack(places[i]);
                visit(moves[i]);
            }
            return !isOver;
        }

        private void begin(Protocol one, Protocol other, int n) {
            Arrays.fill(slots, 0);
            Arrays.fill(fitting, (byte) 0);
            talks[0] = one;
            talks[1] = other;
            at[0] = one.beginning();
            at[1] = other.beginning();
            line[0] = 0;
            line[1] = 0;
            room = n;
            found = 0;
            jams = 0;
            clashes = 0;
            fewest = NOT;
            most = 0;
            isOver = false;
        }

        /** The PLACE that is made up of at and line. */
        private long pack() {
            long lines = (long) line[1] << LAID | line[0];
            return lines << 2 * STATES | (long) at[1] << STATES | at[0];
        }

        private void unpack(long place) {
            int states = (1 << STATES) - 1;
            int letters = (1 << LAID) - 1;
            at[0] = (int) place & states;
            at[1] = (int) (place >> STATES) & states;
            line[0] = (int) (place >> 2 * STATES) & letters;
            line[1] = (int) (place >> 2 * STATES + LAID) & letters;
        }

        private void reach(int steps) {
            long place = pack();
            int slot = (int) ((place * 0x9E3779B97F4A7C15L) >>> 51);
            for (int turn = 0; turn < SLOTS; turn++) {
                int index = slot + turn & SLOTS - 1;
                int known = slots[index] - 1;
                if (known >= 0 && known < PLACES && places[known] == place) return;
                if (known < 0) {
                    isOver = isOver || found >= PLACES;
                    if (isOver) return;
                    places[found] = place;
                    moves[found] = steps;
                    found++;
                    slots[index] = found;
                    return;
                }
            }
        }

        private void visit(int steps) {
            most = Math.max(most, Math.max(lying(line[0]), lying(line[1])));
            int first = taking(0);
            int second = taking(1);
            boolean isClash = first == CLASHES || second == CLASHES;
            if (isClash) clashes++;
            else if (moveOf(0, first, steps) | moveOf(1, second, steps)) return;
            else if (isAtEnd(0) && isAtEnd(1)) return;
            else jams++;
            if (fewest < 0) fewest = steps;
        }

        private static int lying(int letters) {
            return letters == 0 ? 0 : letters >> LETTER == 0 ? 1 : 2;
        }

        private boolean isAtEnd(int party) {
            Protocol talk = talks[party & 1];
            return talk != null && talk.kindOf(at[party & 1]) == END && line[party & 1] == 0;
        }

        private int taking(int party) {
            Protocol talk = talks[party & 1];
            Protocol facing = talks[1 - party & 1];
            int letter = line[1 - party & 1] & FIRST;
            if (talk == null || facing == null || letter == 0) return HAS_NONE;
            int node = at[party & 1];
            int kind = talk.kindOf(node);
            if (kind == OFFER) {
                int label = letter - 1 - NODES;
                return label >= 0 && label < LETTERS && (talk.labelsOf(node) >> label & 1) != 0 ? MAY : CLASHES;
            }
            if (kind != TAKE) return HAS_NONE;
            if (letter > NODES || facing.sortOf(letter - 1) != talk.sortOf(node)) return CLASHES;
            if (talk.sortOf(node) != '(') return MAY;
            int index = ((party & 1) * NODES + letter - 1) * NODES + node;
            if (index < 0 || index >= fitting.length) return CLASHES;
            if (fitting[index] == 0) {
                boolean fit = compare.holds(talk, talk.innerOf(node), facing, facing.innerOf(letter - 1), false);
                fitting[index] = (byte) (fit ? MAY : CLASHES);
            }
            return fitting[index];
        }

        /** Goes where the PARTY can move to; false: it can't. */
        private boolean moveOf(int party, int taken, int steps) {
            Protocol talk = talks[party & 1];
            if (talk == null) return false;
            int node = at[party & 1];
            int kind = talk.kindOf(node);
            int bits = talk.labelsOf(node);
            if (taken == MAY) {
                int label = (line[1 - party & 1] & FIRST) - 1 - NODES;
                draw(party & 1, talk.behind(node, label), steps);
                return true;
            }
            if (kind != SEND && kind != CHOOSE || lying(line[party & 1]) >= room) return false;
            if (kind == SEND) send(party & 1, talk.stepOf(node, 0), 1 + node, steps);
            for (int label = 0; label < LETTERS; label++) {
                if ((bits >> label & 1) == 0) continue;
                send(party & 1, talk.behind(node, label), 1 + NODES + label, steps);
            }
            return true;
        }

        private void send(int party, int behind, int letter, int steps) {
            int node = at[party & 1];
            int letters = line[party & 1];
            at[party & 1] = behind;
            line[party & 1] = letters == 0 ? letter : letters | letter << LETTER;
            reach(steps + 1);
            at[party & 1] = node;
            line[party & 1] = letters;
        }

        private void draw(int party, int behind, int steps) {
            int facing = 1 - party & 1;
            int node = at[party & 1];
            int letters = line[facing];
            at[party & 1] = behind;
            line[facing] = letters >> LETTER;
            reach(steps + 1);
            at[party & 1] = node;
            line[facing] = letters;
        }
    }

    /** An END, with the line to it. */
    private static final class End {
        int holder = NOBODY;
        Protocol talk;
        int node;
        boolean ended;
        int endStep;
        int lying;
        int most;
        private final int[] line = new int[LINE];

        void start(int party, Protocol follows) {
            holder = party;
            talk = follows;
            node = follows.beginning();
            ended = false;
            endStep = 0;
            lying = 0;
            most = 0;
        }

        void become(End from) {
            holder = from.holder;
            talk = from.talk;
            node = from.node;
            ended = from.ended;
            endStep = from.endStep;
            lying = from.lying;
            most = from.most;
            System.arraycopy(from.line, 0, line, 0, LINE);
        }

        int kind() {
            return talk == null ? END : talk.kindOf(node);
        }

        int labels() {
            return talk == null ? 0 : talk.labelsOf(node);
        }

        boolean isAtBrackets() {
            return talk != null && talk.sortOf(node) == '(';
        }

        boolean maySay(int value) {
            return talk != null && value >= 0 && value <= (talk.sortOf(node) == 'b' ? 1 : NUMBERS);
        }

        boolean mayPick(int letter) {
            return letter >= 'a' && letter <= 'z' && (labels() >> letter - 'a' & 1) != 0;
        }

        void put(int letter) {
            if (lying < 0 || lying >= line.length) return;
            line[lying] = letter;
            lying++;
            most = Math.max(most, lying);
        }

        int draw() {
            if (lying <= 0) return 0;
            int first = line[0];
            for (int i = 1; i < line.length; i++) line[i - 1] = line[i];
            lying--;
            return first;
        }
    }

    /** A PLAN, with how far it is. */
    private static final class Plan {
        int acts;
        int next;
        final int[] end = new int[ACTS];
        final int[] sign = new int[ACTS];
        final int[] value = new int[ACTS];

        void become(Plan from) {
            acts = from.acts;
            next = from.next;
            System.arraycopy(from.end, 0, end, 0, ACTS);
            System.arraycopy(from.sign, 0, sign, 0, ACTS);
            System.arraycopy(from.value, 0, value, 0, ACTS);
        }

        int rest() {
            return Math.max(0, acts - next);
        }

        void drop() {
            next = acts;
        }

        int nextEnd() {
            return next >= 0 && next < end.length ? end[next] : -1;
        }

        int nextSign() {
            return next >= 0 && next < sign.length ? sign[next] : 0;
        }

        int nextValue() {
            return next >= 0 && next < value.length ? value[next] : -1;
        }
    }

    /** Reads a text as a PLAN, from the left; where it stops is the FAULT. */
    private static final class PlanReader {
        final Plan draft = new Plan();
        private int[] text = new int[0];
        private int length;
        private int at;

        /** -1: the draft is the PLAN; otherwise the FAULT. */
        int read(int[] row, int many) {
            text = row;
            length = Math.min(many, row.length);
            at = 0;
            draft.acts = 0;
            draft.next = 0;
            for (int act = 0; act < ACTS; act++) {
                if (!readAct(act)) return at;
                draft.acts = act + 1;
                if (at >= length) return -1;
                if (sign() != ',') return at;
                at++;
            }
            return at;
        }

        private boolean readAct(int act) {
            int end = readNumber(ENDS - 1, 2);
            if (end < 0 || act < 0 || act >= ACTS) return false;
            int sign = sign();
            if (sign != '!' && sign != '?' && sign != '+' && sign != '&' && sign != '>' && sign != '.') return false;
            at++;
            int value = readValue(sign);
            if (value < 0) return false;
            draft.end[act] = end;
            draft.sign[act] = sign;
            draft.value[act] = value;
            return true;
        }

        private int readValue(int sign) {
            switch (sign) {
                case '!': return readNumber(NUMBERS, TAPE);
                case '>': return readNumber(ENDS - 1, 2);
                case '+': return readLabel();
                default: return 0;
            }
        }

        private int readLabel() {
            int sign = sign();
            if (sign < 'a' || sign > 'z') return -1;
            at++;
            return sign;
        }

        /** -1: there is none here, or it is too great. */
        private int readNumber(int greatest, int figures) {
            int start = at;
            int value = 0;
            for (int many = 0; many < figures && sign() >= '0' && sign() <= '9'; many++) {
                // What is too great already stays so, however many figures come.
                value = Math.min(value * 10 + sign() - '0', NUMBERS + 1);
                at++;
            }
            if (at == start) return -1;
            if (value <= greatest) return value;
            at = start;
            return -1;
        }

        /** The byte to be read; 0: there is none. */
        private int sign() {
            return at >= 0 && at < length && at < text.length ? text[at] : 0;
        }
    }

    /** THE BLAME; its number is 0 as long as there was no BREACH. */
    private static final class Blame {
        int party;
        int step;
        int number;
        int end;
        int causes;
        private final int[] cause = new int[CAUSES];

        void begin(int who, int when, int which, int where) {
            party = who;
            step = when;
            number = which;
            end = where;
            causes = 0;
        }

        void add(int told) {
            if (causes < 0 || causes >= cause.length) return;
            cause[causes] = told;
            causes++;
        }

        int causeAt(int i) {
            return i >= 0 && i < causes && i < cause.length ? cause[i] : NOT;
        }

        void become(Blame from) {
            begin(from.party, from.step, from.number, from.end);
            System.arraycopy(from.cause, 0, cause, 0, CAUSES);
            causes = from.causes;
        }
    }

    /** All that AN IMAGE keeps. */
    private static final class Room {
        final End[] ends = new End[ENDS];
        final Plan[] plans = new Plan[PARTIES];
        final Blame latest = new Blame();
        int sessions;
        int room = 2;
        int steps;
        int done;
        int waited;
        int breaches;
        int given;
        int ended;

        Room() {
            for (int i = 0; i < ENDS; i++) ends[i] = new End();
            for (int i = 0; i < PARTIES; i++) plans[i] = new Plan();
        }

        void become(Room from) {
            for (int i = 0; i < ENDS; i++) ends[i].become(from.ends[i]);
            for (int i = 0; i < PARTIES; i++) plans[i].become(from.plans[i]);
            latest.become(from.latest);
            sessions = from.sessions;
            room = from.room;
            steps = from.steps;
            done = from.done;
            waited = from.waited;
            breaches = from.breaches;
            given = from.given;
            ended = from.ended;
        }

        int sessionsOver() {
            int over = 0;
            for (int i = 0; i + 1 < ENDS && i < 2 * sessions; i += 2) {
                if (ends[i].ended && ends[i + 1].ended) over++;
            }
            return over;
        }

        int lettersLying() {
            int letters = 0;
            for (int i = 0; i < ENDS && i < 2 * sessions; i++) letters += ends[i].lying;
            return letters;
        }

        int endsUnheld() {
            int unheld = 0;
            for (int i = 0; i < ENDS && i < 2 * sessions; i++) {
                if (ends[i].holder == NOBODY) unheld++;
            }
            return unheld;
        }
    }
}
