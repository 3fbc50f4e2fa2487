import java.io.IOException;

/** The document sentence by sentence: a sheet quotes each, and shows by calls what it asks for. */
public final class SentenceTests {
    private static final String[] FACE = {"feed(int letter)", "define(int k)", "dual(int k, int into)", "spell(int k, int i)",
        "ask(int k, int what)", "same(int j, int k)", "fits(int j, int k)", "witness(int j, int k, int i)",
        "bound(int k, int side)", "meet(int j, int k, int n, int what)", "open(int k, int p, int q)", "size(int n)",
        "say(int party, int end, int v)", "hear(int party, int end)", "choose(int party, int end, int label)",
        "offered(int party, int end)", "give(int party, int end, int given)", "take(int party, int end)",
        "end(int party, int end)", "look(int end, int what)", "blame(int what)", "plan(int party)", "run(int seed, int n)",
        "left(int party)", "waiting()", "image()", "back()", "led(int what)", "count(int what)"};

    public static void main(String[] args) throws IOException {
        Sheet.begin();
        ProtocolSentences.all();
        MeetingSentences.all();
        SessionSentences.all();
        PlanSentences.all();
        CallSentences.all();
        headings();
        Sheet.finish();
        System.out.println(Sheet.sentences + " sentences: " + Sheet.passed + " passed, " + Sheet.failed + " failed");
        if (Sheet.failed != 0) System.exit(1);
    }

    private static void headings() {
        Sheet.passes("# SessionEnds ## What it is Talks by protocols: what two ends of a session may say to each other, in which "
            + "order, told as texts of sends, takings, choices, offers and loops; duals; whether one party may stand in for "
            + "another, and where it could not; how much may lie on the way; whether two protocols can meet without a clash or a "
            + "jam; sessions whose every act a monitor steps along, and blames who breaks it, with its causes; ends that are "
            + "given away over other ends, and are used by whoever holds them; plans of parties, runs by draws; an image. "
            + "======== 1");
        Sheet.passes("## The public face ```java public final class SessionEnds {");
        Sheet.passes("public SessionEnds();");
        Sheet.passes("} ``` ## Terms");
        Sheet.passes("```text");
        Sheet.passes("======== SO THAT NOTHING IS READ TWO WAYS.");
        Sheet.passes("Ahead of the calls `feed`, `define`, `dual`, `spell`, `ask`, `same`, `fits`, `witness`, `bound`, `meet` the "
            + "interface says:");
        Sheet.passes("Ahead of the calls `open`, `size`, `say`, `hear`, `choose`, `offered`, `give`, `take`, `end`, `look`, "
            + "`blame` the interface says: ---- sessions.");
        Sheet.passes("Ahead of the calls `plan`, `run`, `left`, `waiting` the interface says: ---- plans.");
        Sheet.passes("Ahead of the calls `image`, `back`, `led`, `count` the interface says: ---- the image, what was done.");
        Sheet.passes("## Promise 1: A new object `SessionEnds()`:");
        for (int i = 0; i < FACE.length; i++) {
            String name = FACE[i].substring(0, FACE[i].indexOf('('));
            Sheet.passes("public int " + FACE[i] + ";");
            Sheet.passes("## Promise " + (i + 2) + ": " + name + " `int " + FACE[i] + "`:");
        }
    }
}
