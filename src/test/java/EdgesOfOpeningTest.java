import java.util.Arrays;

/** What the document's opening says of all ways out, and sentences that no other of these tests is about. */
public final class EdgesOfOpeningTest extends Bench {
    private static final int MOST_CALLS = 512;
    private static final int MOST_FUEL = 20000;
    /** Each leaves what it stands in by another WAY. */
    private static final String[] EXITS = {"", "leave x;", "again x;", "answer 5;", "fail 20;"};
    private static final int BY_END = 0;
    private static final int BY_ANSWER = 3;
    private static final int BY_TROUBLE = 4;
    private static final String LOOP = "x:each i from 1 to 1{";
    /** A duty that is seen when it is called. */
    private static final String SEEN = "duty s(n){note n;answer n;}";
    private static final int[] NOTHING = {};

    private EdgesOfOpeningTest() {
    }

    public static void main(String[] args) throws Exception {
        Edges.run(EdgesOfOpeningTest.class);
    }

    // ---- helpers

    private static int[] joined(int[]... rows) {
        int[] all = NOTHING;
        for (int[] row : rows) {
            int[] longer = Arrays.copyOf(all, all.length + row.length);
            System.arraycopy(row, 0, longer, all.length, row.length);
            all = longer;
        }
        return all;
    }

    /** A round with this part in it, left where the part has a mark, is logged so ahead of and behind the leaving. */
    private static void isDone(String part, int exit, int[] ahead, int[] due) {
        LockKeepers x = with("duty main(a,b){" + LOOP + part.replace("^", EXITS[exit]) + "note 8;}note 9;}" + SEEN);
        int[] came = exit == BY_TROUBLE ? new int[] {7, 20} : NOTHING;
        int[] goesOn = exit == BY_END ? new int[] {0, 8, 0, 9} : exit < BY_ANSWER ? new int[] {0, 9} : NOTHING;
        Check.due("how it ends", x.run(0, 3, 4, PLENTY), exit == BY_TROUBLE ? TROUBLED : ENDED);
        logIs(part + " left by '" + EXITS[exit] + "'", x, joined(ahead, came, due, goesOn));
        Check.due("its answer", x.told(1), exit == BY_ANSWER ? 5 : 0);
        Check.due("its kind", x.told(2), exit == BY_TROUBLE ? 20 : 0);
        Check.due("none is lost", x.told(14), 0);
    }

    /** A part that is left by each WAY (at the mark), and answers 6 on its way out: that takes the WAY's place. */
    private static void takesThePlace(String part) {
        for (int exit = 0; exit < EXITS.length; exit++) {
            LockKeepers x = with("duty main(a,b){" + LOOP + part.replace("^", EXITS[exit]) + "note 8;}note 9;}");
            Check.due("how it ends", x.run(0, 3, 4, PLENTY), ENDED);
            Check.due(part + " left by '" + EXITS[exit] + "'", x.told(1), 6);
            Check.due("its way", x.told(18), ANSWER);
            Check.due("lost", x.told(14), exit == BY_TROUBLE ? 1 : 0);
        }
    }

    // ---- the opening

    @Holds(promise = 0, says = "however a block, a round, a hold, a duty is left (at its end, by leaving or going on with "
            + "rounds, by an answer, by a trouble), what is due on the way out is done")
    static void whatIsDueIsDone() {
        int part = inMain(LOOP.length());
        for (int exit = 0; exit < EXITS.length; exit++) {
            isDone("hold 3{^}", exit, new int[] {1, 3}, new int[] {2, 3});
            isDone("try{^}always{note 7;}", exit, NOTHING, new int[] {11, part, 0, 7});
            isDone("repeat{^}always{note 7;}until 1;", exit, NOTHING, new int[] {11, part, 0, 7});
            isDone("ensure s(6){^}", exit, NOTHING, new int[] {0, 6});
            isDone("{hold 1{ensure s(6){try{^}always{note 7;}}}}", exit, new int[] {1, 1},
                    new int[] {11, part + "{hold 1{ensure s(6){".length(), 0, 7, 0, 6, 2, 1});
        }
        does("^later{note 7;}note 1;", ENDED, 0, 1, 10, AT, 0, 7);
        does("^later{note 7;}answer 5;", ENDED, 10, AT, 0, 7);
        does("^later{note 7;}fail 20;", TROUBLED, 7, 20, 10, AT, 0, 7);
    }

    @Holds(promise = 0, says = "and may take the way's place")
    static void whatIsDueMayTakeTheWaysPlace() {
        takesThePlace("try{^}always{answer 6;}");
        takesThePlace("repeat{^}always{answer 6;}until 1;");
        takesThePlace("while 1{hold 0{^}}always{ensure 1{answer 6;}}");
        takesThePlace("later{answer 6;}^");
    }

    /** The dearest object: the longest text, all FUEL that there is, and 512 calls. */
    @Holds(promise = 0, says = "An object is used for at most 512 calls after it has been made")
    static void all512Calls() {
        String most = "duty f(n){later{}try{f(1);}mend any{while 1{hold 1{try{fail 20;}mend 20{again;}always{}}}}}#";
        String text = most + "x".repeat(3000 - most.length());
        LockKeepers x = with(text);
        int calls = 152;
        for (int i = 0; i < 10; i++) {
            Check.due("run " + i, x.run(0, 0, 0, MOST_FUEL), NO_FUEL);
            Check.due("FUEL of all", x.told(17), MOST_FUEL * (i + 1));
            calls += 2;
        }
        Check.due("no run more", thrown(x, 0, 0), STATE);
        for (calls++; calls < MOST_CALLS; calls++) {
            Check.due("a call more", x.log(0, 1), 2);
        }
    }

    // ---- of the terms

    @Holds(promise = 4, term = 1, says = "What is in [ ] may be left out, what is in { } comes never, once or more often")
    static void partsThatMayBeLeftOut() {
        String[] bodies = {"", "{}", "{}{}", "if 1{}", "if 1{}else{}", "while 0{}", "x:while 0{}always{}",
            "repeat{}until 1;", "x:repeat{}always{}until 1;", "each i from 1 to 0{}", "x:each i from 1 to 0{}always{}",
            "answer;", "answer 1;", "while 1{leave;}", "x:while 1{leave x;}", "choose 1{}", "choose 1{when 1{}}",
            "choose 1{when 1{}when 2,3{}other{}}", "choose 1{other{}}", "try{}mend 1{}", "try{}mend 1,2{}mend any{}",
            "try{}always{}", "try{}mend any{}always{}", "f();", "g(1);", "h(1,2);", "a=1 or 2 or 3 and 4 and 5;",
            "a=1+2-3*4/5%6;"};
        for (String body : bodies) {
            fine("duty main(a,b){" + body + "}duty f(){}duty g(a){}duty h(a,b){}");
        }
    }

    @Holds(promise = 4, term = 1, says = "5 a NAME that means nothing where it stands")
    static void namesOfOtherThings() {
        faultyAt("duty f(){note ^f;}", 5);
        faultyAt("duty f(a){^a();}", 5);
        faultyAt("duty f(){^f=1;}", 5);
        faultyAt("duty f(a){while 1{leave ^a;}}", 5);
        faultyAt("duty f(){while 1{again ^f;}}", 5);
        faultyAt("duty f(){x:while 1{note ^x;}}", 5);
        faultyAt("duty f(){x:while 1{^x();}}", 5);
        faultyAt("duty f(a){}duty g(){note ^a;}", 5);
    }

    @Holds(promise = 10, term = 2, says = "5 UNEVEN.")
    static void uneven() {
        LockKeepers x = with("duty f(k,s){hold k{open k,s;}}");
        Check.due("even", x.run(0, 0, 0, PLENTY), ENDED);
        x.chamber(1, 2);
        Check.due("uneven", x.run(0, 1, 0, PLENTY), TROUBLED);
        Check.due("its kind", x.told(2), 5);
    }

    @Holds(promise = 10, term = 3, says = "another WAY is the BLOCK's")
    static void waysOfBlocks() {
        Check.due("ANSWER", did("{{answer 5;}}answer 6;", ENDED).told(1), 5);
        troubleIs(did("{{fail 20;}}fail 30;", TROUBLED), 20, 0, inMain(2));
        does("while 1{{{leave;}}note 1;}note 2;", ENDED, 0, 2);
        does("each i from 1 to 2{{note i;{again;}}note 3;}", ENDED, 0, 1, 0, 2);
    }

    @Holds(promise = 6, term = 3, says = "of ensure and of mends: as told")
    static void waysOfEsOfEnsuresAndMends() {
        ways("ensure f(){stop;}", 0);
        ways("ensure f(){}", END | TROUBLE);
        ways("ensure 1{answer;}", ANSWER | TROUBLE);
        ways("try{}mend f(){}", END);
        ways("try{fail 20;}mend f(){}mend any{}", END | TROUBLE);
        ways("try{fail 20;}mend any{}mend f(){}", END);
    }

    @Holds(promise = 13, term = 4, says = "GATES are shut or open.")
    static void gatesAreShutOrOpen() {
        LockKeepers x = with("duty f(k,s){hold k{open k,s;note gate(k,s);shut k,s;note gate(k,s);open k,s;}}");
        for (int k = 0; k < 6; k++) {
            int s = k % 2;
            Check.due("run", x.run(0, k, s, PLENTY), ENDED);
            logIs("gate", x, 1, k, 3, 2 * k + s, 0, 1, 4, 2 * k + s, 0, 0, 3, 2 * k + s, 2, k);
            Check.due("open", x.look(1 + s, k), 1);
            Check.due("shut", x.look(2 - s, k), 0);
        }
    }

    // ---- of the promises

    @Holds(promise = 11, says = "0 how it ended")
    static void toldHowItEnded() {
        String[] bodies = {"", "answer 3;", "stop;", "while 1{}", "fail 20;"};
        int[] ends = {ENDED, ENDED, STOPPED, NO_FUEL, TROUBLED};
        for (int i = 0; i < bodies.length; i++) {
            Check.due(bodies[i], did(bodies[i], ends[i]).told(0), ends[i]);
        }
    }

    @Holds(promise = 11, says = "2 the kind, 3 the CAUSE")
    static void toldKindAndCause() {
        LockKeepers x = did("try{fail 21;}mend any{try{fail 22;}always{fail 23;}}", TROUBLED);
        Check.due("kind", x.told(2), 23);
        Check.due("cause", x.told(3), 22);
    }

    @Holds(promise = 6, says = "Of DUTY d of the book")
    static void dutiesOfTheBook() {
        LockKeepers x = with("duty f(a){}duty g(){var b=1;}");
        Check.due("a text that is no book", Check.read(x, "duty f(){}duty f(){}duty h(a,b){}"), 4);
        Check.due("parameters", x.duty(0, 0), 1);
        Check.due("variables", x.duty(1, 1), 1);
        Check.due("no third one", x.duty(2, 0), NONE);
    }
}
