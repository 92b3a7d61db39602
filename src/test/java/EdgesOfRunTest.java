/** The boundary cases of what promise 10's run() does: values, kinds of TROUBLE, WAYS, FUEL (terms 2 and 3). */
public final class EdgesOfRunTest extends Bench {
    private static final String MAX = "(999999999+999999999+147483649)";
    private static final String MIN = "(-999999999-999999999-147483650)";
    /** Duties that note that they are called. */
    private static final String SEEN = "duty s(n){note n;answer n;}";

    private EdgesOfRunTest() {
    }

    public static void main(String[] args) throws Exception {
        Edges.run(EdgesOfRunTest.class);
    }

    // ---- helpers

    /** A main with this body, run with just so much FUEL, and with one less. */
    private static void needs(String body, int fuel, int outcome) {
        LockKeepers x = with("duty main(a,b){" + body + "}" + SEEN);
        Check.due("just enough for " + body, x.run(0, 3, 4, fuel), outcome);
        Check.due("none is left", x.told(5), 0);
        Check.due("one too little for " + body, x.run(0, 3, 4, fuel - 1), NO_FUEL);
        Check.due("none is left", x.told(5), 0);
    }

    /** A main with this body and the duty s behind it is logged so. */
    private static LockKeepers sees(String body, int outcome, int... pairs) {
        return logs("duty main(a,b){" + body + "}" + SEEN, outcome, pairs);
    }

    private static int cause(String body) {
        return did(body, TROUBLED).told(3);
    }

    // ---- term 2: values

    @Holds(promise = 10, term = 2, says = "VALUES are ints that wrap")
    static void valuesWrap() {
        notes(MAX, MOST);
        notes(MIN, LEAST);
        notes(MAX + "+1", LEAST);
        notes(MIN + "-1", MOST);
        notes("-" + MIN, LEAST);
        notes("-" + MAX, -MOST);
        notes(MIN + "*-1", LEAST);
        notes(MAX + "*2", -2);
        notes("65536*65536", 0);
        notes("46341*46341", -2147479015);
        notes("999999999*999999999", 999999999 * 999999999);
        notes("0-" + MIN, LEAST);
    }

    @Holds(promise = 10, term = 2, says = "/ and % are towards 0")
    static void partingIsTowards0() {
        int[][] due = {{7, 2}, {-7, 2}, {7, -2}, {-7, -2}, {1, 2}, {-1, 2}, {0, 5}, {6, 3}, {-6, 3}};
        int[] parts = {3, -3, -3, 3, 0, 0, 0, 2, -2};
        int[] rests = {1, -1, 1, -1, 1, -1, 0, 0, 0};
        for (int i = 0; i < due.length; i++) {
            LockKeepers x = with("duty f(a,b){note a/b;note a%b;}");
            Check.due("run", x.run(0, due[i][0], due[i][1], 10), ENDED);
            logIs("parts", x, 0, parts[i], 0, rests[i]);
        }
        notes(MIN + "/-1", LEAST);
        notes(MIN + "%-1", 0);
        notes(MIN + "/" + MAX, -1);
        notes(MIN + "%" + MAX, -1);
        notes(MAX + "/" + MIN, 0);
    }

    @Holds(promise = 10, term = 2, says = "TRUE is what is not 0")
    static void truth() {
        int[] numbers = {0, 1, -1, 2, 256, 65536, LEAST, MOST};
        for (int number : numbers) {
            int is = number == 0 ? 0 : 1;
            LockKeepers x = with("duty f(a){if a{note 1;}else{note 0;}note not a;note a or 0;note a and 1;note 1 and a;"
                    + "note 0 or a;while a{note 1;leave;}repeat{note 5;if not a{leave;}}until a;}");
            Check.due("run", x.run(0, number, 0, 50), ENDED);
            if (is == 1) {
                logIs("of " + number, x, 0, 1, 0, 0, 0, 1, 0, 1, 0, 1, 0, 1, 0, 1, 0, 5);
            } else {
                logIs("of 0", x, 0, 0, 0, 1, 0, 0, 0, 0, 0, 0, 0, 0, 0, 5);
            }
        }
    }

    @Holds(promise = 10, term = 2, says = "== != < <= or and not give 1 or 0")
    static void comparisons() {
        int[][] pairs = {{1, 2}, {2, 1}, {2, 2}, {LEAST, MOST}, {MOST, LEAST}, {LEAST, LEAST}, {-1, 0}, {0, -1}};
        for (int[] p : pairs) {
            LockKeepers x = with("duty f(a,b){note a==b;note a!=b;note a<b;note a<=b;}");
            Check.due("run", x.run(0, p[0], p[1], 10), ENDED);
            logIs(p[0] + " and " + p[1], x, 0, p[0] == p[1] ? 1 : 0, 0, p[0] != p[1] ? 1 : 0, 0, p[0] < p[1] ? 1 : 0,
                    0, p[0] <= p[1] ? 1 : 0);
        }
        notes("7 or 8", 1);
        notes("7 and 8", 1);
        notes("not 7", 0);
        notes("not not 7", 1);
        notes("1 or 1 or 1", 1);
        notes("3 and 5 and 9", 1);
    }

    @Holds(promise = 10, term = 2, says = "or and and work their right side only if the left one does not settle it")
    static void rightSides() {
        sees("note s(1) or s(2);", ENDED, 0, 1, 0, 1);
        sees("note s(0) or s(2);", ENDED, 0, 0, 0, 2, 0, 1);
        sees("note s(0) and s(2);", ENDED, 0, 0, 0, 0);
        sees("note s(1) and s(2);", ENDED, 0, 1, 0, 2, 0, 1);
        sees("note s(0) or s(0) or s(5) or s(6);", ENDED, 0, 0, 0, 0, 0, 5, 0, 1);
        sees("note s(1) and s(0) and s(5);", ENDED, 0, 1, 0, 0, 0, 0);
        sees("note s(0) and s(1) or s(2) and s(3);", ENDED, 0, 0, 0, 2, 0, 3, 0, 1);
        sees("note s(1) or s(2) and s(3);", ENDED, 0, 1, 0, 1);
        does("note 1 or 1/0;note 0 and 1/0;", ENDED, 0, 1, 0, 0);
        does("note 0 or 1/0;", TROUBLED, 7, 1);
        does("note 1 and 1/0;", TROUBLED, 7, 1);
        needs("note 1 or s(0);", 2, ENDED);
        needs("note 0 or s(0);", 2 + 3, ENDED);
    }

    @Holds(promise = 10, term = 2, says = "all else is worked from the left")
    static void workedFromTheLeft() {
        String[] ops = {"+", "-", "*", "/", "%", "==", "!=", "<", "<="};
        int[] due = {3, -1, 2, 0, 1, 0, 1, 1, 1};
        for (int i = 0; i < ops.length; i++) {
            sees("note s(1)" + ops[i] + "s(2);", ENDED, 0, 1, 0, 2, 0, due[i]);
        }
        sees("note s(1)+s(2)*s(3);", ENDED, 0, 1, 0, 2, 0, 3, 0, 7);
        sees("note s(1)-s(2)-s(3);", ENDED, 0, 1, 0, 2, 0, 3, 0, -4);
        sees("note gate(s(1),s(0));", ENDED, 0, 1, 0, 0, 0, 0);
        sees("if a{main(s(0),s(7));}", ENDED, 0, 0, 0, 7);
        sees("open s(9),s(8);", TROUBLED, 0, 9, 0, 8, 7, 3);
        sees("sluice s(9),s(8),s(7);", TROUBLED, 0, 9, 0, 8, 0, 7, 7, 3);
        sees("sail s(9),s(8);", TROUBLED, 0, 9, 0, 8, 7, 3);
        sees("each i from s(1) to s(0){}", ENDED, 0, 1, 0, 0);
        // a variable has the value that it has when it is worked
        logs("duty f(){var c=1;note c+g()+c;}duty g(){answer 10;}", ENDED, 0, 12);
        notes("8/4/2", 1);
        notes("100%7%2", 0);
        notes("2-3+4", 3);
        notes("2*7/3", 4);
    }

    @Holds(promise = 10, term = 2,
            says = "kind is the kind of the trouble that was mended latest in the call at hand, cause its CAUSE (both 0 before)")
    static void kindAndCause() {
        does("note kind;note cause;", ENDED, 0, 0, 0, 0);
        does("try{fail 20;}mend any{note kind;note cause;}note kind;", ENDED, 7, 20, 8, 20, 0, 20, 0, 0, 0, 20);
        // a trouble that is not mended, or not yet, is none
        does("try{try{fail 20;}always{note kind;}}mend any{}", ENDED, 7, 20, 11, inMain(4), 0, 0, 8, 20);
        does("try{fail 20;}mend kind{}mend 20{note kind;}", ENDED, 7, 20, 8, 20, 0, 20);
        // the latest one, wherever it was mended
        does("try{fail 20;}mend any{try{fail 30;}mend any{}note kind;note cause;}note kind;", ENDED,
                7, 20, 8, 20, 7, 30, 8, 30, 0, 30, 0, 20, 0, 30);
        does("later{note kind;}try{fail 20;}mend any{}", ENDED, 7, 20, 8, 20, 10, inMain(0), 0, 20);
        // each call of one duty begins without
        logs("duty f(){g();g();}duty g(){note kind;note cause;try{try{fail 20;}mend any{fail 30;}}mend any{}}", ENDED,
                0, 0, 0, 0, 7, 20, 8, 20, 7, 30, 8, 30, 0, 0, 0, 0, 7, 20, 8, 20, 7, 30, 8, 30);
        // another call's is none of this one, before it and behind it
        logs("duty f(){try{fail 20;}mend any{g();}note kind;}duty g(){note kind;try{fail 30;}mend any{note kind;}}", ENDED,
                7, 20, 8, 20, 0, 0, 7, 30, 8, 30, 0, 30, 0, 20);
    }

    @Holds(promise = 10, term = 2, says = "a PLACE, the first byte of the STATEMENT that was being done")
    static void placesOfTroubles() {
        String[] bodies = {"^note 1/0;", "note 1;  ^a=1/0;", "{{^var c=1/0;}}", "^if 1/0{}", "if 1{^fail 20;}",
            "^while 1/0{}", "^x:while 1/0{}", "^x :\n while 1/0{}", "^while 6/a{a=a-1;note 1;}", "^each i from 1/0 to 1{}",
            "^x:each i from 1 to 1/0{}", "^repeat{note 1;}until 1/0;", "^x:repeat{note 1;}until 1/0;", "^choose 1/0{}",
            "^choose 1{when 2,1/0{}}", "^hold 1/0{}", "^hold 9{}", "^ensure 1/0{note 1;}", "^ensure 0{note 1;}",
            "^try{fail 20;}mend 1/0{}", "try{fail 20;}mend any{^fail 30;}", "try{}always{^fail 20;}", "later{^fail 20;}",
            "^answer 1/0;", "^fail 1/0;", "^open 9,9;", "^shut 9,9;", "^sluice 9,9,9;", "^sail 9,9;", "#x\n^fail 20;",
            "note 1; ^main(1/0,1);", "while 1{}always{^a=1/0;}", "if 0{}else{^fail 9;}"};
        for (String body : bodies) {
            String text = "duty main(a,b){" + body + "}";
            LockKeepers x = ran(plain(text), 3, 4, TROUBLED);
            Check.due("place of " + body, x.told(4), place(text, 0));
        }
        fails("duty f(){note g();}duty g(){ ^fail 20;}", 20, 0);
        // behind a call it is the caller's STATEMENT again
        fails("duty f(){^note g()/0;}duty g(){note 1;}", 1, 0);
        fails("duty f(){ while g(){note 1;}}duty g(){note 1;^answer level(9);}", 3, 0);
        fails("duty f(a){^if g()/0{}}duty g(){if 1{note 1;}}", 1, 0);
    }

    // ---- term 2: kinds

    @Holds(promise = 10, term = 2, says = "1 to part by 0 ( / % )")
    static void kind1() {
        failsIn("^note 1/0;", 1, 0);
        failsIn("^note 1%0;", 1, 0);
        failsIn("^note 0/0;", 1, 0);
        failsIn("^note 0%(a-3);", 1, 0);
        failsIn("^note " + MIN + "/(b-4);", 1, 0);
    }

    @Holds(promise = 10, term = 2, says = "2 DEEP: a 13th DUTY under way")
    static void kind2OfCalls() {
        LockKeepers x = with("duty f(n){if n{ f(n-1);}answer n;}");
        Check.due("twelve under way", x.run(0, 11, 0, 100), ENDED);
        Check.due("calls", x.told(15), 12);
        Check.due("a thirteenth", x.run(0, 12, 0, 100), TROUBLED);
        troubleIs(x, 2, 0, 16);
        Check.due("again", x.run(0, 11, 0, 100), ENDED);
        // behind one another there may be any number
        Check.due("2000 calls", ran("duty f(){each i from 1 to 2000{g();}}duty g(){}", 0, 0, ENDED).told(15), 2001);
        // other duties are under way, too; those that were left are not
        logs("duty f(n){if n<13{f(n+1);}else{g();g();try{h();}mend 2{note 7;}}}duty g(){}duty h(){g();}", ENDED,
                7, 2, 8, 2, 0, 7);
    }

    @Holds(promise = 10, term = 2, says = "2 DEEP: a 13th DUTY under way")
    static void kind2IsLeftLikeAnyTrouble() {
        String text = "duty f(n){try{f(n+1);}mend 2{note n;}}";
        LockKeepers x = ran(text, 1, 0, ENDED);
        logIs(text, x, 7, 2, 8, 2, 0, 12);
        // calls from laters are under way within them
        LockKeepers y = with("duty f(n){later{if n{ f(n-1);}}}");
        Check.due("twelve in laters", y.run(0, 11, 0, 100), ENDED);
        Check.due("laters", y.told(11), 12);
        Check.due("a thirteenth in laters", y.run(0, 12, 0, 100), TROUBLED);
        troubleIs(y, 2, 0, 22);
        Check.due("laters", y.told(11), 12);
    }

    @Holds(promise = 10, term = 2, says = "a 13th DUTY under way")
    static void twelveUnderWayWithAllThatTheyHave() {
        // each of twelve calls has variables of its own
        LockKeepers x = ran("duty f(n){var c=n*10;if n{f(n-1);}note c+n;}", 11, 0, ENDED);
        for (int i = 0; i < 12; i++) {
            Check.due("the call with " + i, x.log(i, 1), 11 * i);
        }
        // and as many things that are due on the way out as NESTS allow: twelve BLOCKS, and a call in the last
        String[] opens = {"hold 2{", "ensure 1{", "try{", "repeat{"};
        String[] closes = {"}", "}", "}always{}", "}always{}until 1;"};
        for (int i = 0; i < opens.length; i++) {
            String head = "duty f(n){" + times(opens[i], 12);
            String tail = times(closes[i], 12) + "}";
            LockKeepers y = with(head + "later{}f(n);" + tail);
            Check.due("run with " + opens[i], y.run(0, 12, 0, PLENTY), TROUBLED);
            Check.due("its kind", y.told(2), 2);
            Check.due("calls", y.told(15), 12);
            Check.due("taken", y.told(6), i == 0 ? 144 : 0);
            Check.due("let go", y.told(7), i == 0 ? 144 : 0);
            Check.due("always parts", y.told(9), i < 2 ? 0 : 144);
            Check.due("laters", y.told(11), 12);
        }
        // and values that wait for those of calls: seven E's and three left sides in each BRACKET
        StringBuilder e = new StringBuilder("n");
        for (int i = 0; i < 12; i++) {
            e.insert(0, "g(1,1,1,1,1,1,1,0<1+1*").append(")");
        }
        LockKeepers z = with("duty f(n){if n{answer f(n-1)+1;}answer " + e + ";}duty g(a,b,c,d,h,i,j,k){answer a+j+k;}");
        Check.due("run", z.run(0, 10, 0, PLENTY), ENDED);
        Check.due("its answer", z.told(1), 3 + 10);
    }

    @Holds(promise = 10, term = 2, says = "a 41st later that waits in one call")
    static void kind2OfLaters() {
        LockKeepers x = did("each i from 1 to 40{later{}}", ENDED);
        Check.due("pledged", x.told(10), 40);
        Check.due("begun", x.told(11), 40);
        x = did("each i from 1 to 41{ later{}}", TROUBLED);
        troubleIs(x, 2, 0, inMain(21));
        Check.due("pledged", x.told(10), 40);
        Check.due("begun", x.told(11), 40);
        // one that has begun waits no more
        x = did("each i from 1 to 40{later{if i==40{i=0;later{}}}}", ENDED);
        Check.due("pledged", x.told(10), 41);
        String two = "each i from 1 to 40{later{if i==40{i=0;later{} ^later{}}}}";
        x = did(plain(two), TROUBLED);
        troubleIs(x, 2, 0, inMain(place(two, 0)));
        Check.due("pledged", x.told(10), 41);
        Check.due("begun", x.told(11), 41);
        // in one call
        x = ran("duty f(){each i from 1 to 40{later{}}g();}duty g(){each i from 1 to 40{later{}}}", 0, 0, ENDED);
        Check.due("pledged", x.told(10), 80);
    }

    @Holds(promise = 10, term = 2, says = "10 .. 99 by fail (another number: 10)")
    static void kindsByFail() {
        int[][] due = {{10, 10}, {11, 11}, {98, 98}, {99, 99}, {9, 10}, {100, 10}, {1, 10}, {0, 10}, {-1, 10}, {-10, 10},
            {110, 10}, {266, 10}, {MOST, 10}, {LEAST, 10}};
        LockKeepers x = with("duty f(a){fail a;}");
        for (int[] c : due) {
            Check.due("fail " + c[0], x.run(0, c[0], 0, 10), TROUBLED);
            Check.due("kind by fail " + c[0], x.told(2), c[1]);
            logIs("fail " + c[0], x, 7, c[1]);
        }
    }

    @Holds(promise = 10, term = 2, says = "10 by ensure")
    static void kindByEnsure() {
        failsIn("^ensure 0{}", 10, 0);
    }

    @Holds(promise = 10, term = 2, says = "Each variable of a DUTY has a place of its own in each call")
    static void variablesOfEachCall() {
        does("var c=1;{var d=2;{var e=3;}note d;}{var d=4;var e=5;note c*100+d*10+e;}note a*10+b;", ENDED,
                0, 2, 0, 145, 0, 34);
        logs("duty f(a){var c=a*10;if a{f(a-1);}note a;note c;}", ENDED, 0, 0, 0, 0, 0, 1, 0, 10, 0, 2, 0, 20, 0, 3, 0, 30);
        // BLOCKS behind one another have variables of their own: a later still finds its one
        does("{var v=5;^later{note v;}}{var w=6;^later{note w;}}var u=7;", ENDED, 10, AT + 1, 0, 6, 10, AT, 0, 5);
        does("each i from 1 to 1{later{note i;}}each i from 8 to 8{}", ENDED, 10, inMain(19), 0, 1);
        // all 24 of them
        StringBuilder body = new StringBuilder();
        for (int i = 2; i < 24; i++) {
            body.append("var v").append(i).append("=").append(i).append(";");
        }
        StringBuilder sum = new StringBuilder("note a+b");
        for (int i = 2; i < 24; i++) {
            sum.append("+v").append(i);
        }
        does(body + sum.toString() + ";", ENDED, 0, 7 + 23 * 24 / 2 - 1);
    }

    // ---- term 3: plain WAYS

    @Holds(promise = 10, term = 3,
            says = "A BLOCK's STATEMENTS are done one behind the other as long as they are left at their END")
    static void blocksAreLeftEarly() {
        does("{}{note 1;{note 2;}note 3;}", ENDED, 0, 1, 0, 2, 0, 3);
        does("note 1;{answer 5;note 2;}note 3;", ENDED, 0, 1);
        does("note 1;{fail 20;note 2;}note 3;", TROUBLED, 0, 1, 7, 20);
        does("note 1;{stop;note 2;}note 3;", STOPPED, 0, 1);
        does("while 1{note 1;{leave;note 2;}note 3;}note 4;", ENDED, 0, 1, 0, 4);
    }

    @Holds(promise = 10, term = 3, says = "note E: E is worked, and LOGGED (sort 0, the number)")
    static void note() {
        notes("0", 0);
        notes(MIN, LEAST);
        sees("note s(5)+1;", ENDED, 0, 5, 0, 6);
        does("note 1/0;", TROUBLED, 7, 1);
    }

    @Holds(promise = 10, term = 3, says = "answer: ANSWER of E (0 without E)")
    static void answer() {
        Check.due("without E", did("answer;", ENDED).told(1), 0);
        Check.due("with E", did("answer " + MIN + ";", ENDED).told(1), LEAST);
        logs("duty f(){note 5+g();note 5+h();}duty g(){answer;}duty h(){answer 2;answer 3;}", ENDED, 0, 5, 0, 7);
        Check.due("an E that fails", did("answer 1/0;", TROUBLED).told(1), 0);
    }

    @Holds(promise = 10, term = 3, says = "leave, again: of the loop with that label, or the innermost one")
    static void leaveAndAgain() {
        does("x:each i from 1 to 2{each j from 1 to 2{note i*10+j;leave;}note 0;}", ENDED, 0, 11, 0, 0, 0, 21, 0, 0);
        does("x:each i from 1 to 2{each j from 1 to 2{note i*10+j;leave x;}note 0;}", ENDED, 0, 11);
        does("x:each i from 1 to 2{each j from 1 to 2{note i*10+j;again;}note 0;}", ENDED,
                0, 11, 0, 12, 0, 0, 0, 21, 0, 22, 0, 0);
        does("x:each i from 1 to 2{each j from 1 to 2{note i*10+j;again x;}note 0;}", ENDED, 0, 11, 0, 21);
        // the innermost one with that label is the one that stands around: the other is over
        does("x:while 1{leave x;}x:each i from 1 to 2{note i;again x;}", ENDED, 0, 1, 0, 2);
        // in an always BLOCK its loop is the innermost one
        does("each i from 1 to 2{while 1{}always{leave;}note i;}", ENDED, 11, inMain(19), 0, 1, 11, inMain(19), 0, 2);
    }

    @Holds(promise = 10, term = 3, says = "A CALL as a STATEMENT: its answer is nothing.")
    static void callsAsStatements() {
        sees("s(1);each i from 1 to 2{s(5);}note a;", ENDED, 0, 1, 0, 5, 0, 5, 0, 3);
        sees("each i from 1 to 2{s(5);note i+20;s(6);note 9;}", ENDED, 0, 5, 0, 21, 0, 6, 0, 9, 0, 5, 0, 22, 0, 6, 0, 9);
        // nothing of it waits, however many there are
        String[] statements = {"g();", "choose 1{}", "choose 1{other{}}", "choose 1{when any{}}", "choose 1{when 1{}}"};
        int[] counts = {300, 280, 160, 140, 150};
        for (int i = 0; i < statements.length; i++) {
            LockKeepers x = with("duty f(n){" + times(statements[i], counts[i]) + "if n{answer f(n-1)+1;}answer 1+2*(3+n);}"
                    + "duty g(){answer 8;}");
            int below = i == 0 ? 10 : 11;
            Check.due("run of many " + statements[i], x.run(0, below, 0, PLENTY), ENDED);
            Check.due("its answer", x.told(1), 7 + below);
        }
        Check.due("no answer of the caller", ran("duty f(){g();}duty g(){answer 5;}", 0, 0, ENDED).told(1), 0);
    }

    @Holds(promise = 10, term = 3, says = "if: as ever.")
    static void ifs() {
        does("if 1{note 1;}note 9;", ENDED, 0, 1, 0, 9);
        does("if 0{note 1;}note 9;", ENDED, 0, 9);
        does("if 1{note 1;}else{note 2;}note 9;", ENDED, 0, 1, 0, 9);
        does("if 0{note 1;}else{note 2;}note 9;", ENDED, 0, 2, 0, 9);
        does("if 0{}else{}if -1{if 0{note 1;}else{note 2;}}else{note 3;}", ENDED, 0, 2);
        does("if 1/0{note 1;}else{note 2;}", TROUBLED, 7, 1);
        does("while 1{if 1{leave;}else{}note 1;}if 0{}else{answer;}note 2;", ENDED);
    }

    @Holds(promise = 10, term = 3, says = "fail E: a TROUBLE of that kind.")
    static void fail() {
        sees("fail s(50)+1;note 1;", TROUBLED, 0, 50, 7, 51);
        failsIn("note 1;^fail 1/0;", 1, 0);
        failsIn("note 1;^fail 20;", 20, 0);
    }

    @Holds(promise = 10, term = 3, says = "choose: E is worked, then the LISTS' E's, in their order, till one is that number")
    static void chooseInOrder() {
        String choose = "choose s(a){when s(1),s(2){note 10;}when s(3){note 20;}other{note 30;}}";
        String text = "duty main(a){" + choose + "note 99;}" + SEEN;
        int[][] due = {{1, 1, 10}, {2, 2, 10}, {3, 3, 20}, {4, 3, 30}, {0, 3, 30}};
        for (int[] c : due) {
            LockKeepers x = with(text);
            Check.due("run", x.run(0, c[0], 0, 100), ENDED);
            Check.due("entries", x.told(16), 1 + c[1] + 2);
            Check.due("its number", x.log(0, 1), c[0]);
            for (int i = 1; i <= c[1]; i++) {
                Check.due("asked", x.log(i, 1), i);
            }
            Check.due("its BLOCK", x.log(c[1] + 1, 1), c[2]);
            Check.due("behind it", x.log(c[1] + 2, 1), 99);
        }
        // the first one of two that fit; one BLOCK alone
        does("choose 3{when 3{note 1;}when 3{note 2;}other{note 3;}}", ENDED, 0, 1);
        does("choose 3{when 3,1/0{note 1;}}", ENDED, 0, 1);
        does("choose 3{when 1/0,3{note 1;}}", TROUBLED, 7, 1);
        does("choose " + MIN + "{when -" + MIN + "{note 1;}}", ENDED, 0, 1);
    }

    @Holds(promise = 10, term = 3, says = "without one that of other, if there is one. (any: at once.)")
    static void chooseOtherAndAny() {
        does("choose 3{}note 9;", ENDED, 0, 9);
        does("choose 3{when 4{note 1;}}note 9;", ENDED, 0, 9);
        does("choose 3{other{note 1;}}note 9;", ENDED, 0, 1, 0, 9);
        does("choose 3{when any{note 1;}when 3{note 2;}other{note 3;}}note 9;", ENDED, 0, 1, 0, 9);
        does("choose 3{when 4{note 0;}when any{note 1;}when 1/0{note 2;}other{note 3;}}", ENDED, 0, 1);
        does("choose 3{when 3{note 0;}when any{note 1;}}", ENDED, 0, 0);
        does("choose 1/0{when any{note 1;}}", TROUBLED, 7, 1);
        does("choose 1/0{}", TROUBLED, 7, 1);
        // the BLOCK's WAY is the choose's
        does("while 1{choose 3{when 3{leave;}}}choose 3{when any{answer;}}note 1;", ENDED);
        does("each i from 1 to 2{choose i{when 1{again;}other{note i;}}note 5;}", ENDED, 0, 2, 0, 5);
        does("each i from 1 to 2{choose i{when any{choose 7{when i,7{note i;}}}}}note a;", ENDED, 0, 1, 0, 2, 0, 3);
    }

    // ---- term 3: loops

    @Holds(promise = 10, term = 3, says = "while: E is asked ahead of each round, till it is 0")
    static void whiles() {
        does("while 0{note 1;}note 2;", ENDED, 0, 2);
        sees("while s(a){a=a-1;}note 9;", ENDED, 0, 3, 0, 2, 0, 1, 0, 0, 0, 9);
        does("while a+1{a=a-1;note a;}", ENDED, 0, 2, 0, 1, 0, 0, 0, -1);
        does("while 1/0{note 1;}", TROUBLED, 7, 1);
        sees("while s(a){a=a-1;again;}", ENDED, 0, 3, 0, 2, 0, 1, 0, 0);
        sees("while s(a){leave;}", ENDED, 0, 3);
    }

    @Holds(promise = 10, term = 3, says = "repeat: E is asked behind each round, till it is not 0")
    static void repeats() {
        sees("repeat{note 7;}until s(5);", ENDED, 0, 7, 0, 5);
        sees("repeat{a=a-1;note 7;}until s(a-2)+1;", ENDED, 0, 7, 0, 0);
        sees("repeat{a=a-1;}until s(a<1);", ENDED, 0, 0, 0, 0, 0, 1);
        sees("repeat{a=a-1;again;}until s(a<1);", ENDED, 0, 0, 0, 0, 0, 1);
        sees("repeat{leave;}until s(1);", ENDED);
        sees("repeat{answer;}until s(1);", ENDED);
        sees("repeat{fail 20;}until s(1);", TROUBLED, 7, 20);
        does("repeat{}until 1/0;note 1;", TROUBLED, 7, 1);
    }

    @Holds(promise = 10, term = 3, says = "each: both E's are worked once")
    static void eachsEs() {
        sees("each i from s(1) to s(3){note i*10;}", ENDED, 0, 1, 0, 3, 0, 10, 0, 20, 0, 30);
        does("each i from a to b{note i;a=9;b=0;}", ENDED, 0, 3, 0, 4);
        does("each i from 1/0 to 1{}", TROUBLED, 7, 1);
        does("each i from 1 to 1/0{}", TROUBLED, 7, 1);
    }

    @Holds(promise = 10, term = 3, says = "its rounds are those of the numbers from the first one on to the second one "
            + "(none, if that is less; no number wraps)")
    static void eachsRounds() {
        LockKeepers x = with("duty f(a,b){each i from a to b{note i;}note 77;}");
        int[][] due = {{1, 0, 0}, {1, 1, 1}, {1, 2, 2}, {-2, 1, 4}, {0, 0, 1}, {-1, -1, 1}, {0, -1, 0}, {5, -5, 0},
            {MOST, MOST, 1}, {MOST - 2, MOST, 3}, {LEAST, LEAST, 1}, {LEAST, LEAST + 1, 2}, {MOST, LEAST, 0},
            {MOST, MOST - 1, 0}, {LEAST + 1, LEAST, 0}};
        for (int[] c : due) {
            Check.due("run", x.run(0, c[0], c[1], 100), ENDED);
            Check.due("rounds from " + c[0] + " to " + c[1], x.told(16), c[2] + 1);
            for (int i = 0; i < c[2]; i++) {
                Check.due("number " + i, x.log(i, 1), c[0] + i);
            }
            Check.due("then", x.log(c[2], 1), 77);
        }
        Check.due("from the least to the most", x.run(0, LEAST, MOST, 100), NO_FUEL);
        Check.due("rounds: 98 FUEL, two each", x.told(16), 49);
        Check.due("the last one", x.log(48, 1), LEAST + 48);
    }

    @Holds(promise = 10, term = 3, says = "each of which its variable becomes as its round begins")
    static void eachsVariable() {
        does("each i from 1 to 3{note i;i=i*10;note i;}", ENDED, 0, 1, 0, 10, 0, 2, 0, 20, 0, 3, 0, 30);
        does("each i from 1 to 2{i=9;again;}always{note i;}", ENDED, 11, inMain(0), 0, 9, 11, inMain(0), 0, 9);
        does("each i from 1 to 2{}always{note i;i=7;}", ENDED, 11, inMain(0), 0, 1, 11, inMain(0), 0, 2);
        does("each i from 1 to 2{each j from i to 2{note i*10+j;}}", ENDED, 0, 11, 0, 12, 0, 22);
    }

    @Holds(promise = 10, term = 3, says = "A ROUND is left by its BLOCK's WAY; then, if the loop has an always part, that is "
            + "done (LOGGED, sort 11, the first byte of the loop (its label's), or of the try, as it begins)")
    static void alwaysPartsAreLogged() {
        does(" ^while a{a=0;}always{note 1;}", ENDED, 11, AT, 0, 1);
        does(" ^x:while a{a=0;}always{note 1;}", ENDED, 11, AT, 0, 1);
        does(" ^x : #\n repeat{}always{note 1;}until 1;", ENDED, 11, AT, 0, 1);
        does(" ^x:each i from 1 to 1{}always{note 1;}", ENDED, 11, AT, 0, 1);
        does(" ^try{}always{note 1;}", ENDED, 11, AT, 0, 1);
        does(" ^try{fail 20;}mend any{note 0;}always{note 1;}", ENDED, 7, 20, 8, 20, 0, 0, 11, AT, 0, 1);
        // for each round, by whatever WAY it is left
        does("^each i from 1 to 5{choose i{when 1{again;}when 2{}when 3{leave;}}note i;}always{note 10*i;}", ENDED,
                11, AT, 0, 10, 0, 2, 11, AT, 0, 20, 11, AT, 0, 30);
        does("^while 1{answer 5;}always{note 1;}", ENDED, 11, AT, 0, 1);
        does("^while 1{fail 20;}always{note 1;}", TROUBLED, 7, 20, 11, AT, 0, 1);
        does("x:while 1{^while 1{leave x;}always{note 1;}}", ENDED, 11, AT, 0, 1);
        // none without a round, and none for the asking
        does("while 0{}always{note 1;}each i from 2 to 1{}always{note 2;}", ENDED);
        does("while 1/0{}always{note 1;}", TROUBLED, 7, 1);
        does("^repeat{}always{note 1;}until 1/0;", TROUBLED, 11, AT, 0, 1, 7, 1);
    }

    @Holds(promise = 10, term = 3,
            says = "if that is left at its END the round's WAY stays, else its WAY takes the place")
    static void alwaysPartsOfRoundsTakeThePlace() {
        int p = inMain(0);
        Check.due("an ANSWER stays", did("while 1{answer 5;}always{}", ENDED).told(1), 5);
        Check.due("another ANSWER", did("while 1{answer 5;}always{answer 6;}", ENDED).told(1), 6);
        does("while 1{answer 5;}always{leave;}note 9;", ENDED, 11, p, 0, 9);
        does("while a{a=a-1;leave;}always{again;}note 9;", ENDED, 11, p, 11, p, 11, p, 0, 9);
        does("each i from 1 to 3{again;}always{leave;}note 9;", ENDED, 11, p, 0, 9);
        does("each i from 1 to 2{leave;}always{}note 9;", ENDED, 11, p, 0, 9);
        does("while 1{leave;}always{fail 30;}note 9;", TROUBLED, 11, p, 7, 30);
        does("while 1{fail 20;}always{fail 30;}note 9;", TROUBLED, 7, 20, 11, p, 7, 30, 9, 20);
        does("while 1{fail 20;}always{leave;}note 9;", ENDED, 7, 20, 11, p, 9, 20, 0, 9);
        does("each i from 1 to 2{fail 20;}always{again;}note 9;", ENDED, 7, 20, 11, p, 9, 20, 7, 20, 11, p, 9, 20, 0, 9);
        does("while 1{}always{answer 5;}", ENDED, 11, p);
        does("x:each i from 1 to 2{while 1{}always{again x;}}always{note i;}", ENDED,
                11, inMain(21), 11, p, 0, 1, 11, inMain(21), 11, p, 0, 2);
        // an always part may hold another loop's ways
        does("while 1{leave;}always{each i from 1 to 3{if i==2{leave;}note i;}}note 9;", ENDED, 11, p, 0, 1, 0, 9);
    }

    @Holds(promise = 10, term = 3, says = "A round that is left at its END, or by AGAIN of this loop: the next one (of repeat "
            + "E ahead of it); by LEAVE of this loop: the loop is left at its END; by any other WAY: the loop is left so.")
    static void roundsAreLeft() {
        sees("repeat{a=a-1;if a==1{again;}note a*10;}until s(a<1);", ENDED, 0, 20, 0, 0, 0, 0, 0, 0, 0, 1);
        sees("repeat{leave;}until s(0);note 9;", ENDED, 0, 9);
        does("x:while 1{while 1{leave x;}note 8;}note 9;", ENDED, 0, 9);
        does("x:each i from 1 to 2{repeat{again x;}until 1;note 8;}note 9;", ENDED, 0, 9);
        does("x:each i from 1 to 2{each j from 1 to 9{if j==2{again x;}note i*10+j;}}", ENDED, 0, 11, 0, 21);
        // as deep as NESTS allow: out of the outermost loop
        StringBuilder body = new StringBuilder("x:while 1{");
        for (int i = 1; i < 13; i++) {
            body.append("repeat{");
        }
        body.append("leave x;");
        for (int i = 1; i < 13; i++) {
            body.append("}always{note ").append(i).append(";}until 1;note 99;");
        }
        LockKeepers x = did(body + "}note 100;", ENDED);
        Check.due("entries", x.told(16), 2 * 12 + 1);
        for (int i = 1; i < 13; i++) {
            Check.due("always part " + i, x.log(2 * i - 1, 1), i);
        }
        Check.due("behind it", x.log(24, 1), 100);
    }

    // ---- term 3: hold and ensure

    @Holds(promise = 10, term = 3,
            says = "hold E: lock E has one HOLD more (3 if there is none such; from 0 to 1 LOGGED, sort 1, the lock)")
    static void holdTakes() {
        for (int k = 0; k < 6; k++) {
            does("hold " + k + "{hold " + k + "{hold " + k + "{note held(" + k + ");}}}", ENDED, 1, k, 0, 3, 2, k);
        }
        int[] none = {-1, 6, LEAST, MOST};
        for (int k : none) {
            LockKeepers x = with("duty f(k){hold k{note 1;}note 2;}");
            Check.due("run", x.run(0, k, 0, 10), TROUBLED);
            Check.due("kind", x.told(2), 3);
            logIs("hold " + k, x, 7, 3);
            Check.due("taken", x.told(6), 0);
            Check.due("let go", x.told(7), 0);
        }
        does("hold 0{hold 1{note held(0);note held(1);note held(2);}note held(1);}", ENDED,
                1, 0, 1, 1, 0, 1, 0, 1, 0, 0, 2, 1, 0, 0, 2, 0);
    }

    @Holds(promise = 10, term = 3,
            says = "whatever the WAY, one HOLD less then (from 1 to 0 LOGGED, sort 2, likewise); the WAY stays")
    static void holdLetsGo() {
        String[] bodies = {"", "answer 5;", "fail 20;", "leave;", "again;"};
        for (String body : bodies) {
            LockKeepers x = did("each i from 1 to 1{hold 5{hold 5{" + body + "}}}",
                    body.startsWith("fail") ? TROUBLED : ENDED);
            Check.due("taken", x.told(6), 2);
            Check.due("let go", x.told(7), 2);
            Check.due("entries", x.told(16), body.startsWith("fail") ? 3 : 2);
            Check.due("the last one", x.log(x.told(16) - 1, 0), 2);
            Check.due("its lock", x.log(x.told(16) - 1, 1), 5);
            Check.due("answer", x.told(1), body.startsWith("answer") ? 5 : 0);
            Check.due("kind", x.told(2), body.startsWith("fail") ? 20 : 0);
        }
        // a trouble of the E, or that there is no such lock, lets nothing go
        does("hold 5{hold 1/0{}}", TROUBLED, 1, 5, 7, 1, 2, 5);
        does("hold 5{try{hold 6{}}mend 3{note held(5);}}", ENDED, 1, 5, 7, 3, 8, 3, 0, 1, 2, 5);
        // a called duty's hold is the canal's
        logs("duty f(){hold 2{g();note held(2);}}duty g(){note held(2);hold 2{note held(2);answer;}}", ENDED,
                1, 2, 0, 1, 0, 2, 0, 1, 2, 2);
    }

    @Holds(promise = 10, term = 3, says = "ensure E: its BLOCK; then, whatever the WAY, E is worked")
    static void ensureIsAskedWhateverTheWay() {
        sees("ensure s(1){note 5;}note 6;", ENDED, 0, 5, 0, 1, 0, 6);
        sees("ensure s(1){answer 5;}note 6;", ENDED, 0, 1);
        sees("while 1{ensure s(1){leave;}}note 6;", ENDED, 0, 1, 0, 6);
        sees("each i from 1 to 2{ensure s(i){again;}}", ENDED, 0, 1, 0, 2);
        sees("ensure s(1){fail 20;}note 6;", TROUBLED, 7, 20, 0, 1);
        does("ensure a==4{a=a+1;}note a;", ENDED, 0, 4);
        sees("ensure s(1){stop;}", STOPPED);
        sees("ensure s(1){ensure s(2){answer 5;}}", ENDED, 0, 2, 0, 1);
    }

    @Holds(promise = 10, term = 3, says = "(its PLACE is the ensure's; WITHIN, as an always part)")
    static void ensuresPlaceAndCause() {
        failsIn("note 1;^ensure 1/0{note 2;{note 3;}}", 1, 0);
        failsIn("note 1;^ensure a-3{note 2;fail 20;}", 10, 20);
        failsIn("^ensure 1/0{ensure 0{note 2;}}", 1, 10);
        failsIn("ensure 1{ ^ensure 0{note 2;}}", 10, 0);
        fails("duty f(){^ensure g()-1{fail 20;}}duty g(){note 5;answer 1;}", 10, 20);
        fails("duty f(){ensure g(){fail 20;}}duty g(){note 5;^fail 30;}", 30, 20);
        // without a TROUBLE on the way it is what is around that counts
        failsIn("try{fail 20;}mend any{^ensure 0{note 1;}}", 10, 20);
        failsIn("try{fail 20;}mend any{^ensure 0{answer;}}", 10, 20);
        failsIn("try{fail 20;}mend any{^ensure 0{fail 30;}}", 10, 30);
        failsIn("try{fail 20;}mend any{ensure 1{}^fail 40;}", 40, 20);
    }

    @Holds(promise = 10, term = 3, says = "if it is 0, a TROUBLE of KIND 10 takes the WAY's place, if one comes as it is worked "
            + "that one does; else the WAY stays")
    static void ensureTakesTheWaysPlace() {
        does("ensure 0{}note 1;", TROUBLED, 7, 10);
        does("ensure 0{answer 5;}", TROUBLED, 7, 10);
        does("while 1{ensure 0{leave;}}", TROUBLED, 7, 10);
        does("ensure 0{fail 20;}", TROUBLED, 7, 20, 7, 10, 9, 20);
        does("ensure 1/0{}", TROUBLED, 7, 1);
        does("ensure 1/0{answer 5;}", TROUBLED, 7, 1);
        does("ensure 1/0{fail 20;}", TROUBLED, 7, 20, 7, 1, 9, 20);
        does("ensure -1{fail 20;}", TROUBLED, 7, 20);
        Check.due("the ANSWER stays", did("ensure -1{answer 5;}", ENDED).told(1), 5);
        does("try{ensure 0{}}mend 10{note kind;}", ENDED, 7, 10, 8, 10, 0, 10);
        does("ensure 0{ensure 0{}}", TROUBLED, 7, 10, 7, 10, 9, 10);
        does("while 1{try{ensure 0{fail 20;}}mend 10{note cause;leave;}}", ENDED, 7, 20, 7, 10, 9, 20, 8, 10, 0, 20);
    }

    // ---- term 3: try

    @Holds(promise = 10, term = 3, says = "If that is left by a TROUBLE, its mends are asked, in their order: any, or one E, "
            + "worked from the left, that is the TROUBLE's kind: the first one such MENDS it (LOGGED, sort 8, the kind)")
    static void mendsAreAsked() {
        sees("try{fail 20;}mend s(19),s(20),s(21){note 1;}mend s(20){note 2;}", ENDED, 7, 20, 0, 19, 0, 20, 8, 20, 0, 1);
        sees("try{fail 20;}mend s(19){note 1;}mend s(20){note 2;}mend any{note 3;}", ENDED,
                7, 20, 0, 19, 0, 20, 8, 20, 0, 2);
        sees("try{fail 20;}mend s(19){note 1;}mend any{note 3;}mend s(20){note 2;}", ENDED, 7, 20, 0, 19, 8, 20, 0, 3);
        sees("try{fail 20;}mend s(19){note 1;}note 4;", TROUBLED, 7, 20, 0, 19);
        sees("try{}mend s(19){note 1;}note 4;", ENDED, 0, 4);
        sees("try{answer 5;}mend s(19){note 1;}note 4;", ENDED);
        sees("while 1{try{leave;}mend s(19){note 1;}}note 4;", ENDED, 0, 4);
        // each kind that there is
        does("try{note 1/0;}mend 1{note kind;}", ENDED, 7, 1, 8, 1, 0, 1);
        does("try{hold 9{}}mend 3{note kind;}", ENDED, 7, 3, 8, 3, 0, 3);
        does("try{open 0,0;}mend 4{note kind;}", ENDED, 7, 4, 8, 4, 0, 4);
        does("try{fail 99;}mend 98{}mend 100{}mend 99{note kind;}", ENDED, 7, 99, 8, 99, 0, 99);
    }

    @Holds(promise = 10, term = 3, says = "its BLOCK is done, whose WAY is that of both")
    static void mendsWay() {
        Check.due("ANSWER", did("try{fail 20;}mend any{answer 5;}", ENDED).told(1), 5);
        does("while 1{try{fail 20;}mend any{leave;}}note 9;", ENDED, 7, 20, 8, 20, 0, 9);
        does("each i from 1 to 2{try{fail 20;}mend any{again;}note 8;}note 9;", ENDED, 7, 20, 8, 20, 7, 20, 8, 20, 0, 9);
        // a trouble of a mend's BLOCK is not asked for by this try's mends
        does("try{fail 20;}mend 20{fail 30;}mend 30{note 1;}", TROUBLED, 7, 20, 8, 20, 7, 30);
        does("try{try{fail 20;}mend 20{fail 30;}}mend 30{note 1;}", ENDED, 7, 20, 8, 20, 7, 30, 8, 30, 0, 1);
        does("try{fail 20;}mend any{stop;}always{note 1;}", STOPPED, 7, 20, 8, 20);
    }

    @Holds(promise = 10, term = 3, says = "Then, whatever the WAY, the always part, as that of a round.")
    static void triesAlwaysPart() {
        int p = inMain(0);
        does("try{}always{note 1;}note 2;", ENDED, 11, p, 0, 1, 0, 2);
        does("try{answer 5;}always{note 1;}note 2;", ENDED, 11, p, 0, 1);
        does("try{fail 20;}always{note 1;}note 2;", TROUBLED, 7, 20, 11, p, 0, 1);
        does("try{fail 20;}mend 19{}always{note 1;}note 2;", TROUBLED, 7, 20, 11, p, 0, 1);
        does("try{fail 20;}mend any{}always{note 1;}note 2;", ENDED, 7, 20, 8, 20, 11, p, 0, 1, 0, 2);
        does("try{fail 20;}mend any{answer 5;}always{note 1;}note 2;", ENDED, 7, 20, 8, 20, 11, p, 0, 1);
        does("try{fail 20;}mend any{fail 30;}always{note 1;}note 2;", TROUBLED, 7, 20, 8, 20, 7, 30, 11, p, 0, 1);
        does("try{fail 20;}mend 1/0{}mend any{note 3;}always{note 1;}", TROUBLED, 7, 20, 7, 1, 9, 20, 11, p, 0, 1);
        does("try{fail 20;}always{answer 5;}", ENDED, 7, 20, 11, p, 9, 20);
        does("try{answer 5;}always{fail 20;}", TROUBLED, 11, p, 7, 20);
        does("try{fail 20;}mend any{}always{fail 30;}", TROUBLED, 7, 20, 8, 20, 11, p, 7, 30);
        Check.due("another ANSWER", did("try{answer 5;}always{answer 6;}", ENDED).told(1), 6);
        Check.due("the ANSWER stays", did("try{answer 5;}always{try{fail 20;}mend any{}}", ENDED).told(1), 5);
    }

    // ---- term 3: later

    @Holds(promise = 10, term = 3, says = "later: its BLOCK is PLEDGED to the call at hand.")
    static void laterIsPledged() {
        does("^later{note 1;}note 2;", ENDED, 0, 2, 10, AT, 0, 1);
        does("if 0{later{note 1;}}note 2;", ENDED, 0, 2);
        does("answer;later{note 1;}", ENDED);
        does("each i from 1 to 2{^later{note i;}}", ENDED, 10, AT, 0, 2, 10, AT, 0, 2);
        logs("duty f(){g();note 1;}duty g(){^later{note 2;}note 3;}", ENDED, 0, 3, 10, AT, 0, 2, 0, 1);
        logs("duty f(){^later{g();}}duty g(){^later{note 2;}}", ENDED, 10, AT, 10, AT + 1, 0, 2);
    }

    @Holds(promise = 10, term = 3, says = "then all that are pledged to it, the latest first, also those that are pledged "
            + "meanwhile, each whatever WAY the one ahead was left by (LOGGED, sort 10, the later's first byte, as it begins)")
    static void latersAreDone() {
        does("^later{note 1;}^later{note 2;}^later{note 3;}", ENDED, 10, AT + 2, 0, 3, 10, AT + 1, 0, 2, 10, AT, 0, 1);
        does("^later{note 1;}^later{note 2;^later{note 3;}^later{note 4;}note 5;}", ENDED,
                10, AT + 1, 0, 2, 0, 5, 10, AT + 3, 0, 4, 10, AT + 2, 0, 3, 10, AT, 0, 1);
        does("^later{note 1;}^later{answer 5;}", ENDED, 10, AT + 1, 10, AT, 0, 1);
        does("^later{note 1;}^later{fail 20;}", TROUBLED, 10, AT + 1, 7, 20, 10, AT, 0, 1);
        does("^later{note 1;}fail 20;", TROUBLED, 7, 20, 10, AT, 0, 1);
        does("^later{note 1;}answer 5;", ENDED, 10, AT, 0, 1);
        does("^later{^later{note 1;}fail 20;}", TROUBLED, 10, AT, 7, 20, 10, AT + 1, 0, 1);
        does("later{note 1;}stop;", STOPPED);
        does("later{note 1;}^later{stop;}", STOPPED, 10, AT);
        // behind holds, tries and loops of the call's BLOCK
        does("hold 0{^try{^later{note held(0);}}always{note 2;}}", ENDED, 1, 0, 11, AT, 0, 2, 2, 0, 10, AT + 1, 0, 0);
    }

    @Holds(promise = 10, term = 3, says = "a WAY other than the END takes the place of the call's")
    static void latersTakeThePlace() {
        Check.due("its ANSWER for the END", did("later{answer 5;}", ENDED).told(1), 5);
        Check.due("its ANSWER for an ANSWER", did("later{answer 5;}answer 6;", ENDED).told(1), 5);
        Check.due("the END takes none", did("later{}answer 6;", ENDED).told(1), 6);
        Check.due("the first one pledged is done last", did("later{answer 5;}later{answer 6;}", ENDED).told(1), 5);
        does("later{answer 5;}fail 20;", ENDED, 7, 20, 10, inMain(0), 9, 20);
        does("later{fail 30;}fail 20;", TROUBLED, 7, 20, 10, inMain(0), 7, 30, 9, 20);
        does("later{fail 30;}answer 5;", TROUBLED, 10, inMain(0), 7, 30);
        does("^later{answer 5;}^later{fail 20;}", ENDED, 10, AT + 1, 7, 20, 10, AT, 9, 20);
        logs("duty f(){note g()+1;}duty g(){^later{answer 5;}fail 20;}", ENDED, 7, 20, 10, AT, 9, 20, 0, 6);
    }

    @Holds(promise = 10, term = 3, says = "A call that is left at its END answers 0.")
    static void callsAtTheirEnd() {
        logs("duty f(){note 7+g();note 7+h();}duty g(){}duty h(){^later{}{}note 1;}", ENDED, 0, 7, 0, 1, 10, AT, 0, 7);
        Check.due("the run's own", did("note 5;", ENDED).told(1), 0);
    }

    // ---- term 3: TROUBLES that come and are lost

    @Holds(promise = 10, term = 3, says = "A TROUBLE COMES (LOGGED, sort 7, its kind); it is LOST (LOGGED, sort 9, its kind) when "
            + "another WAY takes its place: that of an always part or a later, or a TROUBLE of an ensure, or one that comes as "
            + "a mend's E is worked.")
    static void troublesAreLost() {
        int p = inMain(0);
        does("try{fail 20;}always{}", TROUBLED, 7, 20, 11, p);
        does("try{fail 20;}always{fail 30;}", TROUBLED, 7, 20, 11, p, 7, 30, 9, 20);
        does("try{fail 20;}always{answer;}", ENDED, 7, 20, 11, p, 9, 20);
        does("while 1{fail 20;}always{leave;}", ENDED, 7, 20, 11, p, 9, 20);
        does("later{answer;}fail 20;", ENDED, 7, 20, 10, p, 9, 20);
        does("ensure 0{fail 20;}", TROUBLED, 7, 20, 7, 10, 9, 20);
        does("try{fail 20;}mend 1/0{}", TROUBLED, 7, 20, 7, 1, 9, 20);
        does("try{fail 20;}mend 19,1/0,20{}", TROUBLED, 7, 20, 7, 1, 9, 20);
        // one that is mended is not lost, nor is one on which a run is OVER
        does("try{fail 20;}mend any{answer;}", ENDED, 7, 20, 8, 20);
        does("try{fail 20;}mend any{fail 30;}", TROUBLED, 7, 20, 8, 20, 7, 30);
        does("try{fail 20;}always{stop;}", STOPPED, 7, 20, 11, p);
        // lost when what takes its place is left, behind what is due on that way
        does("try{fail 20;}always{hold 0{fail 30;}}", TROUBLED, 7, 20, 11, p, 1, 0, 7, 30, 2, 0, 9, 20);
        does("^try{^try{fail 20;}always{fail 30;}}always{fail 40;}", TROUBLED,
                7, 20, 11, AT + 1, 7, 30, 9, 20, 11, AT, 7, 40, 9, 30);
        does("try{fail 20;}always{^try{fail 30;}mend any{}}", TROUBLED, 7, 20, 11, p, 7, 30, 8, 30);
    }

    @Holds(promise = 10, term = 2, says = "A TROUBLE has a KIND, a CAUSE (a kind, 0 without one) and a PLACE")
    static void troublesThatWaitStayWhatTheyAre() {
        failsIn("try{^fail 20;}always{note 1;try{fail 30;}mend any{note 2;}}", 20, 0);
        failsIn("while 1{^fail 20;}always{note 1;}", 20, 0);
        failsIn("later{note 1;later{note 2;}}note 0;^fail 20;", 20, 0);
        failsIn("ensure 1{^fail 20;}", 20, 0);
        failsIn("try{^fail 20;}mend 30{note 1;}", 20, 0);
        failsIn("hold 0{try{^fail 20;}always{hold 0{note 1;}}}", 20, 0);
        failsIn("try{fail 30;}mend any{later{note 1;}try{ensure 1{^fail 20;}}mend 1{}always{note 2;}}", 20, 30);
        fails("duty f(){try{g();}always{note 1;}}duty g(){later{note 2;}^fail 20;}", 20, 0);
    }

    @Holds(promise = 10, term = 3, says = "the BLOCK of a mend, from its beginning to its being left: the kind that was mended")
    static void causeInAMend() {
        Check.due("in it", cause("try{fail 20;}mend any{fail 30;}"), 20);
        Check.due("behind it", cause("try{fail 20;}mend any{}fail 30;"), 0);
        Check.due("in the always part behind it", cause("try{fail 20;}mend any{}always{fail 30;}"), 0);
        Check.due("behind a mend in it", cause("try{fail 20;}mend any{try{fail 30;}mend any{}fail 40;}"), 20);
        Check.due("in a mend in it", cause("try{fail 20;}mend any{try{fail 30;}mend any{fail 40;}}"), 30);
        Check.due("left by LEAVE", cause("while 1{try{fail 20;}mend any{leave;}}fail 30;"), 0);
        Check.due("left by AGAIN", cause("each i from 1 to 2{if i==2{fail 30;}try{fail 20;}mend any{again;}}"), 0);
        Check.due("a later that was pledged in it", cause("try{fail 20;}mend any{later{fail 30;}}"), 0);
        Check.due("DEEP in it", cause("try{fail 20;}mend any{each i from 1 to 41{later{}}}"), 20);
    }

    @Holds(promise = 10, term = 3, says = "an always part, a later or an ensure's E that is done with a TROUBLE on its way, and "
            + "the E's of mends that are asked for one: that one's kind")
    static void causeOfATroubleOnItsWay() {
        Check.due("a try's always part", cause("try{fail 20;}always{fail 30;}"), 20);
        Check.due("a round's always part", cause("while 1{fail 20;}always{fail 30;}"), 20);
        Check.due("a later", cause("later{fail 30;}fail 20;"), 20);
        Check.due("an ensure's E", cause("ensure 1/0{fail 20;}"), 20);
        Check.due("an ensure's 10", cause("ensure 0{fail 20;}"), 20);
        Check.due("a mend's E", cause("try{fail 20;}mend 1/0{}"), 20);
        Check.due("a second mend's E", cause("try{fail 20;}mend 19{}mend 1/0{}"), 20);
        Check.due("an always part behind that", cause("try{fail 20;}mend 1/0{}always{fail 30;}"), 1);
        // without one they are nothing
        Check.due("always without", cause("try{}always{fail 30;}"), 0);
        Check.due("always with an ANSWER", cause("try{answer;}always{fail 30;}"), 0);
        Check.due("a round's without", cause("while 1{leave;}always{fail 30;}"), 0);
        Check.due("later without", cause("later{fail 30;}answer;"), 0);
        Check.due("an ensure's E without", cause("ensure 1/0{}"), 0);
        Check.due("an ensure's 10 without", cause("ensure 0{answer;}"), 0);
        // each for itself
        Check.due("a later behind one that lost it", cause("later{fail 40;}later{answer;}fail 20;"), 0);
        Check.due("a later behind one that failed", cause("later{fail 40;}later{fail 30;}"), 30);
        Check.due("behind an always part", cause("while 1{try{fail 20;}always{leave;}}fail 30;"), 0);
    }

    @Holds(promise = 10, term = 3,
            says = "within several of these (calls from there are within them, too) the one that began last; 0 within none")
    static void causeWithinSeveral() {
        Check.due("always in a mend", cause("try{fail 20;}mend any{try{fail 30;}always{fail 40;}}"), 30);
        Check.due("always without one in a mend", cause("try{fail 20;}mend any{try{}always{fail 40;}}"), 20);
        Check.due("mend in an always part", cause("try{fail 20;}always{try{fail 30;}mend any{fail 40;}}"), 30);
        Check.due("behind a mend in an always part", cause("try{fail 20;}always{try{fail 30;}mend any{}fail 40;}"), 20);
        Check.due("its first trouble", did("try{fail 20;}always{try{fail 30;}mend any{note cause;}}", TROUBLED).log(4, 1), 20);
        Check.due("later in a mend's call", ran("duty f(){try{fail 20;}mend any{g();}}duty g(){later{fail 40;}}", 0, 0, TROUBLED)
                .told(3), 20);
        Check.due("later with one in a mend's call",
                ran("duty f(){try{fail 20;}mend any{g();}}duty g(){later{fail 40;}fail 30;}", 0, 0, TROUBLED).told(3), 30);
        Check.due("a call from a mend's E",
                ran("duty f(){try{fail 20;}mend g(){}}duty g(){fail 30;}", 0, 0, TROUBLED).told(3), 20);
        Check.due("a call from an ensure's E",
                ran("duty f(){ensure g(){fail 20;}}duty g(){fail 30;}", 0, 0, TROUBLED).told(3), 20);
        Check.due("a call from an always part",
                ran("duty f(){try{fail 20;}always{g();}}duty g(){if 1{fail 30;}}", 0, 0, TROUBLED).told(3), 20);
        Check.due("behind such a call",
                ran("duty f(){try{fail 20;}mend any{g();fail 40;}}duty g(){try{fail 30;}mend any{}}", 0, 0, TROUBLED).told(3), 20);
        Check.due("a mended one's cause is what it was when it came",
                did("try{fail 20;}mend any{try{try{fail 30;}always{}}mend any{note cause;}}", ENDED).log(5, 1), 20);
        Check.due("none", cause("fail 20;"), 0);
    }

    // ---- term 3: calls and FUEL

    @Holds(promise = 10, term = 3, says = "A CALL: its E's are worked, then 1 FUEL, then DEEP is asked; the E's are the parameters.")
    static void callsInOrder() {
        // call and if for 11 times, then all of the last call's STATEMENT but its 1 FUEL
        String text = "duty f(n){if n{f(n-1);}else{f(s(5));}}" + SEEN;
        int ahead = 12 + 11 + 12 + 1;
        LockKeepers x = with(text);
        Check.due("no FUEL for the 13th's E", x.run(0, 11, 0, ahead), NO_FUEL);
        Check.due("nothing seen", x.told(16), 0);
        x = with("duty f(n){if n{f(n-1);}else{f(5/0);}}");
        Check.due("its E's trouble comes first", x.run(0, 11, 0, ahead), TROUBLED);
        Check.due("kind", x.told(2), 1);
        x = with("duty f(n){if n{f(n-1);}else{f(5);}}");
        Check.due("FUEL is asked ahead of DEEP", x.run(0, 11, 0, ahead), NO_FUEL);
        Check.due("no trouble came", x.told(12), 0);
        Check.due("with it: DEEP", x.run(0, 11, 0, ahead + 1), TROUBLED);
        Check.due("kind", x.told(2), 2);
        Check.due("its FUEL is used", x.told(5), 0);
        logs("duty f(){g(1,2,3,4,5,6,7,8);}duty g(a,b,c,d,e,h,i,j){note a-b;note c-d;note e*h;note i*j;}", ENDED,
                0, -1, 0, -1, 0, 30, 0, 56);
    }

    @Holds(promise = 10, term = 3, says = "FUEL: 1 for each STATEMENT that begins, but BLOCKS")
    static void fuelOfStatements() {
        needs("", 1, ENDED);
        needs("{}{{}{}}", 1, ENDED);
        String[] one = {"var c=1;", "a=1;", "note 1;", "if 1{}", "if 0{}", "choose 1{}", "choose 1{when any{}}", "hold 1{}",
            "try{}always{}", "try{}mend any{}", "later{}", "each i from 2 to 1{}", "answer;"};
        for (String statement : one) {
            needs(statement, 2, ENDED);
        }
        needs("hold 1{open 1,0;shut 1,0;}", 4, ENDED);
        needs("hold 1{sluice 1,0,1000;}", 3, ENDED);
        needs("fail 20;", 2, TROUBLED);
        needs("stop;", 2, STOPPED);
        needs("open 9,9;", 2, TROUBLED);
        needs("note 1;note 2;note 3;", 4, ENDED);
        needs("try{fail 20;}mend any{note 1;}always{note 2;}", 5, ENDED);
        needs("later{note 1;}later{note 2;}", 5, ENDED);
        // what is not begun costs nothing
        needs("answer;note 1;", 2, ENDED);
        needs("if 0{note 1;}else{}", 2, ENDED);
    }

    @Holds(promise = 10, term = 3, says = "1 ahead of each asking of a while, each round of an each or repeat, each E of an "
            + "ensure behind its BLOCK, each call (also of the run's own DUTY), each unit of water that moves")
    static void fuelOfRoundsAndCalls() {
        needs("while 0{}", 1 + 1 + 1, ENDED);
        needs("while a{a=a-1;}", 1 + 1 + 4 + 3, ENDED);
        needs("while 1{leave;}", 1 + 1 + 1 + 1, ENDED);
        needs("while 1/0{}", 1 + 1 + 1, TROUBLED);
        needs("each i from 1 to 1{}", 1 + 1 + 1, ENDED);
        needs("each i from 1 to 5{}", 1 + 1 + 5, ENDED);
        needs("each i from 1 to 5{leave;}", 1 + 1 + 1 + 1, ENDED);
        needs("repeat{}until 1;", 1 + 1 + 1, ENDED);
        needs("repeat{a=a-1;}until a<1;", 1 + 1 + 3 + 3, ENDED);
        needs("repeat{leave;}until 0;", 1 + 1 + 1 + 1, ENDED);
        needs("while a{a=0;}always{}", 1 + 1 + 2 + 1, ENDED);
        needs("ensure 1{}", 1 + 1 + 1, ENDED);
        needs("ensure 0{}", 1 + 1 + 1, TROUBLED);
        needs("ensure 1{answer;}", 1 + 1 + 1 + 1, ENDED);
        needs("ensure 1{fail 20;}", 1 + 1 + 1 + 1, TROUBLED);
        needs("s(1);", 1 + 1 + 3, ENDED);
        needs("note s(1)+s(2);", 1 + 1 + 2 * 3, ENDED);
    }

    @Holds(promise = 10, term = 3, says = "each unit of water that moves")
    static void fuelOfWater() {
        LockKeepers x = with("duty f(n){hold 0{sluice 0,0,n;}}");
        Check.due("chamber", x.chamber(0, 100), true);
        Check.due("just enough", x.run(0, 5, 0, 3 + 5), ENDED);
        Check.due("left", x.told(5), 0);
        Check.due("units", x.look(0, 0), 95);
        Check.due("one too little", x.run(0, 5, 0, 3 + 4), NO_FUEL);
        Check.due("units", x.look(0, 0), 91);
        Check.due("none for the units", x.run(0, 5, 0, 3), NO_FUEL);
        Check.due("units", x.look(0, 0), 91);
        Check.due("none is asked for none", x.run(0, 0, 0, 3), ENDED);
    }

    @Holds(promise = 10, term = 3, says = "Without one the run is OVER.")
    static void everyLackOfFuelEndsTheRun() {
        String body = "later{note 1;}hold 0{try{s(1);fail 20;}mend s(19),20{note 2;}always{each i from 1 to 2{note i;}}}"
                + "ensure s(1){repeat{a=a-1;}until a<2;}while a<2{a=a+1;}answer 5;";
        LockKeepers whole = with("duty main(a,b){" + body + "}" + SEEN);
        Check.due("with plenty", whole.run(0, 3, 4, 1000), ENDED);
        int used = whole.told(17);
        long[] entries = new long[whole.told(16)];
        for (int i = 0; i < entries.length; i++) {
            entries[i] = whole.log(i, 0) * 1000L + whole.log(i, 1);
        }
        for (int fuel = 0; fuel <= used; fuel++) {
            LockKeepers x = with("duty main(a,b){" + body + "}" + SEEN);
            Check.due("with " + fuel, x.run(0, 3, 4, fuel), fuel < used ? NO_FUEL : ENDED);
            Check.due("left", x.told(5), 0);
            Check.due("used", x.told(17), fuel);
            Check.due("held no more", x.look(3, 0), 0);
            Check.due("way", x.told(18), fuel < used ? 0 : ANSWER);
            // what is done is what the whole run does, up to there
            int done = x.told(16);
            Check.due("no more entries", done <= entries.length, true);
            for (int i = 0; i < Math.min(done, entries.length); i++) {
                Check.due("entry " + i, x.log(i, 0) * 1000L + x.log(i, 1), entries[i]);
            }
        }
    }

    @Holds(promise = 10, term = 3, says = "When a run is OVER nothing more is done, no always parts, no laters; all HOLDS are 0 "
            + "(LOGGED no more)")
    static void overIsOver() {
        String[] ends = {"stop;", "while 1{}", "each i from 1 to 99{}", "repeat{}until 0;"};
        int[] outcomes = {STOPPED, NO_FUEL, NO_FUEL, NO_FUEL};
        for (int i = 0; i < ends.length; i++) {
            String body = "later{note 1;}hold 0{hold 5{hold 5{while 1{try{try{ensure 0{" + ends[i]
                    + "}}mend any{note 2;}always{note 3;}}always{note 4;}}always{note 5;}}}}note 6;";
            LockKeepers x = with("duty main(a,b){" + body + "}");
            Check.due("run with " + ends[i], x.run(0, 3, 4, 50), outcomes[i]);
            logIs(ends[i], x, 1, 0, 1, 5);
            for (int k = 0; k < 6; k++) {
                Check.due("HOLDS of " + k, x.look(3, k), 0);
            }
            Check.due("always parts", x.told(9), 0);
            Check.due("laters", x.told(11), 0);
        }
        // in a called duty, too
        logs("duty f(){later{note 1;}hold 1{g();}note 2;}duty g(){later{note 3;}hold 1{stop;}}", STOPPED, 1, 1);
        logs("duty f(){try{note g();}mend any{note 1;}always{note 2;}}duty g(){^try{fail 20;}always{stop;}}", STOPPED,
                7, 20, 11, AT);
        // the next runs find nothing of it
        LockKeepers y = with("duty f(n){later{note 1;}try{fail 20;}mend any{answer 1+(2+(3+f(n)));}}"
                + "duty g(n){later{note 2;}if n{answer 1+(2+(3+g(n-1)));}try{fail 30;}mend any{stop;}}"
                + "duty h(n){note kind;note cause;if n{h(n-1);}else{fail 40;}}duty i(n){answer 1+2*(3+n);}");
        for (int i = 0; i < 40; i++) {
            Check.due("OVER by FUEL", y.run(0, 99, 0, 30), NO_FUEL);
            Check.due("OVER by stop", y.run(1, 11, 0, 100), STOPPED);
        }
        Check.due("behind them", y.run(2, 2, 0, 100), TROUBLED);
        logIs("behind them", y, 0, 0, 0, 0, 0, 0, 0, 0, 0, 0, 0, 0, 7, 40);
        Check.due("cause", y.told(3), 0);
        Check.due("behind them", y.run(3, 4, 0, 100), ENDED);
        Check.due("answer", y.told(1), 15);
        Check.due("entries", y.told(16), 0);
        // and no HOLD
        LockKeepers x = with("duty f(){hold 1{stop;}}duty g(){note held(1);hold 1{note held(1);}}");
        Check.due("run", x.run(0, 0, 0, 100), STOPPED);
        Check.due("run", x.run(1, 0, 0, 100), ENDED);
        logIs("the next one", x, 0, 0, 1, 1, 0, 1, 2, 1);
    }

    @Holds(promise = 10, term = 3, says = "stop: the run is OVER")
    static void stopIsOver() {
        does("note 1;stop;note 2;", STOPPED, 0, 1);
        does("try{stop;}mend any{note 1;}", STOPPED);
        Check.due("its FUEL is left", did("stop;", STOPPED).told(5), PLENTY - 2);
        logs("duty f(){note 1+g();}duty g(){note 5;stop;}", STOPPED, 0, 5);
    }

    @Holds(promise = 10, term = 3, says = "ANSWER of a number; TROUBLE")
    static void waysPassAllThatIsAround() {
        // an ANSWER and a TROUBLE out of a hold, a round, a try and an ensure, each doing what is due
        String around = "hold 1{while 1{try{ensure 1{%}}always{note 1;}}always{note 2;}}";
        int round = inMain(7);
        int trial = inMain(15);
        LockKeepers x = does(around.replace("%", "answer 7;"), ENDED, 1, 1, 11, trial, 0, 1, 11, round, 0, 2, 2, 1);
        Check.due("its answer", x.told(1), 7);
        x = does(around.replace("%", "fail 20;"), TROUBLED, 1, 1, 7, 20, 11, trial, 0, 1, 11, round, 0, 2, 2, 1);
        Check.due("its kind", x.told(2), 20);
        does(around.replace("%", "leave;"), ENDED, 1, 1, 11, trial, 0, 1, 11, round, 0, 2, 2, 1);
    }
}
