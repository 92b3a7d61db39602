/** The boundary cases of WHAT MAY COME, by the text alone: the WAYS that promise 6's duty(d, 3) must tell. */
public final class EdgesOfWaysTest extends Bench {
    private static final int NEVER = 0;
    private static final int ALL = END | ANSWER | TROUBLE;

    private EdgesOfWaysTest() {
    }

    public static void main(String[] args) throws Exception {
        Edges.run(EdgesOfWaysTest.class);
    }

    // ---- E's

    @Holds(promise = 6, term = 3, says = "An E MAY fail if in it is a CALL")
    static void callsMayFail() {
        String[] with = {"f()", "1+f()", "f()*1", "(f())", "-f()", "not f()", "f() or 1", "1 or f()", "0 and f()",
            "1<f()", "main(1,2)", "main(f(),1)", "1 and (2 or -(3+f()))", "f()/1", "f()%1"};
        for (String e : with) {
            ways("a=" + e + ";", END | TROUBLE);
        }
    }

    @Holds(promise = 6, term = 3, says = "a QUERY with (")
    static void queriesMayFail() {
        String[] with = {"level(0)", "reach(0)", "gate(0,0)", "ship(0)", "held(0)", "1+(2*-held(0))", "level(a)==1"};
        for (String e : with) {
            ways("a=" + e + ";", END | TROUBLE);
        }
        String[] without = {"kind", "cause", "(kind)", "kind+cause", "not kind or -cause"};
        for (String e : without) {
            ways("a=" + e + ";", END);
        }
    }

    @Holds(promise = 6, term = 3, says = "/ or % whose right side is not a NUMBER above 0 (in ( ) or not)")
    static void partingMayFail() {
        String[] with = {"0", "000", "a", "-1", "(-1)", "(0)", "(a)", "(1+1)", "(1*1)", "(1 or 1)", "(not 0)", "(1==1)",
            "kind", "--1", "(1-1)", "(2/1)"};
        String[] without = {"1", "2", "001", "999999999", "(1)", "((1))", "(((007)))"};
        String[] ops = {"/", "%"};
        for (String op : ops) {
            for (String right : with) {
                ways("a=1" + op + right + ";", END | TROUBLE);
                ways("a=b" + op + "2" + op + right + ";", END | TROUBLE);
                ways("a=b" + op + right + op + "2;", END | TROUBLE);
            }
            for (String right : without) {
                ways("a=a" + op + right + ";", END);
                ways("a=a" + op + right + "+b*0" + op + right + ";", END);
                ways("a=-a" + op + right + "*a-a;", END);
            }
        }
    }

    @Holds(promise = 6, term = 3, says = "An E MAY fail if in it is")
    static void otherEsMayNotFail() {
        String[] without = {"1", "a", "a+b", "a-b", "a*b", "a*0", "-a", "not a", "a or b", "a and b", "a==b", "a!=b", "a<b",
            "a<=b", "(a)", "0*(1+2)"};
        for (String e : without) {
            ways("a=" + e + ";", END);
            ways("if " + e + "{}", END);
        }
    }

    // ---- STATEMENTS

    @Holds(promise = 6, term = 3, says = "BLOCK: at its END, if all of its STATEMENTS MAY be (or there are none)")
    static void blocksAtTheirEnd() {
        ways("", END);
        ways("{}", END);
        ways("note 1;note 2;{note 3;}", END);
        ways("note 1;answer;", ANSWER);
        ways("answer;note 1;", ANSWER);
        ways("note 1;{stop;}note 2;", NEVER);
        ways("{{answer;}}", ANSWER);
    }

    @Holds(promise = 6, term = 3,
            says = "by another WAY, if one of them MAY be, and all ahead of it at their END")
    static void blocksByAnotherWay() {
        ways("if a{answer;}fail 1;", ANSWER | TROUBLE);
        ways("if a{answer;}if b{fail 1;}", ALL);
        ways("answer;fail 1;", ANSWER);
        ways("fail 1;answer;", TROUBLE);
        ways("stop;fail 1;", NEVER);
        ways("f();answer;open 1,1;", ANSWER | TROUBLE);
        ways("if a{answer;}else{answer;}f();", ANSWER);
        ways("note 1;{answer;f();}f();", ANSWER);
    }

    @Holds(promise = 6, term = 3, says = "leave, again, answer, fail: by LEAVE, AGAIN, ANSWER, TROUBLE; stop: by none")
    static void statementsThatEndNothing() {
        ways("answer;", ANSWER);
        ways("answer 1;", ANSWER);
        ways("fail 1;", TROUBLE);
        ways("stop;", NEVER);
        ways("repeat{leave;fail 1;}until 1;", END);
        ways("repeat{again;fail 1;}until 1;", END);
        ways("x:repeat{repeat{leave x;}until 1;fail 1;}until 1;", END);
    }

    @Holds(promise = 6, term = 3, says = "open, shut, sluice, sail, later, a CALL: at the END, by TROUBLE")
    static void ordersMayFail() {
        String[] orders = {"open 1,1;", "shut 1,1;", "sluice 1,1,1;", "sail 1,1;", "later{}", "later{stop;}", "f();"};
        for (String order : orders) {
            ways(order, END | TROUBLE);
            ways(order + "stop;", TROUBLE);
        }
    }

    @Holds(promise = 6, term = 3, says = "var, = , note: at the END.")
    static void plainStatementsEnd() {
        ways("var c=1;", END);
        ways("a=1;", END);
        ways("note 1;", END);
    }

    @Holds(promise = 6, term = 3,
            says = "if: by what one of its BLOCKS MAY be (without else: at the END, too)")
    static void ifs() {
        ways("if 1{}", END);
        ways("if 1{answer;}", END | ANSWER);
        ways("if 1{stop;}", END);
        ways("if 0{fail 1;}", END | TROUBLE);
        ways("if 1{answer;}else{}", END | ANSWER);
        ways("if 1{answer;}else{fail 1;}", ANSWER | TROUBLE);
        ways("if 1{stop;}else{stop;}", NEVER);
        ways("if 1{stop;}else{answer;}", ANSWER);
        ways("if 1{}else{stop;}", END);
    }

    @Holds(promise = 6, term = 3, says = "choose likewise of when's and other's, up to the first any "
            + "(at the END, too, if there is neither any nor other)")
    static void chooses() {
        ways("choose 1{}", END);
        ways("choose 1{when 1{stop;}}", END);
        ways("choose 1{when 1{answer;}when 2{fail 1;}}", ALL);
        ways("choose 1{other{stop;}}", NEVER);
        ways("choose 1{when 1{answer;}other{fail 1;}}", ANSWER | TROUBLE);
        ways("choose 1{when any{stop;}}", NEVER);
        ways("choose 1{when any{answer;}other{fail 1;}}", ANSWER);
        ways("choose 1{when any{answer;}when 1{fail 1;}}", ANSWER);
        ways("choose 1{when any{stop;}when any{answer;}}", NEVER);
        ways("choose 1{when 1{fail 1;}when any{stop;}when 2{answer;}other{}}", TROUBLE);
        ways("choose 1{when 1{fail 1;}when 2{answer;}other{}}", ALL);
    }

    @Holds(promise = 6, term = 3, says = "hold: by TROUBLE, and what its BLOCK MAY be")
    static void holds() {
        ways("hold 1{}", END | TROUBLE);
        ways("hold 1{answer;}", ANSWER | TROUBLE);
        ways("hold 1{stop;}", TROUBLE);
        ways("hold 1{fail 1;}", TROUBLE);
    }

    @Holds(promise = 6, term = 3,
            says = "ensure: by what its BLOCK MAY be, and, if that is any WAY, by TROUBLE")
    static void ensures() {
        ways("ensure 1{}", END | TROUBLE);
        ways("ensure 1{answer;}", ANSWER | TROUBLE);
        ways("ensure 1{stop;}", NEVER);
        ways("ensure 1/0{stop;}", NEVER);
        ways("ensure f(){}", END | TROUBLE);
        ways("repeat{ensure 1{leave;}}until 1;", END | TROUBLE);
        ways("repeat{ensure 1{leave;}answer;}until 1;", END | TROUBLE);
    }

    // ---- try

    @Holds(promise = 6, term = 3, says = "try: a TROUBLE of its BLOCK stays, if no mend has any")
    static void troublesThatNoneMends() {
        ways("try{fail 1;}always{}", TROUBLE);
        ways("try{fail 1;}mend 1{}", END | TROUBLE);
        ways("try{fail 1;}mend 1{stop;}mend 10{stop;}", TROUBLE);
        ways("try{fail 1;}mend any{stop;}", NEVER);
        ways("try{fail 1;}mend 1{stop;}mend any{stop;}", NEVER);
        ways("try{fail 1;}mend any{stop;}mend 1{}", NEVER);
        ways("try{f();}mend any{}", END);
        ways("try{f();}mend 1{}", END | TROUBLE);
    }

    @Holds(promise = 6, term = 3, says = "or an E of a mend ahead of the first any MAY fail")
    static void troublesOfMendsEs() {
        ways("try{fail 1;}mend f(){stop;}mend any{stop;}", TROUBLE);
        ways("try{fail 1;}mend 1,2,1/0{stop;}mend any{stop;}", TROUBLE);
        ways("try{fail 1;}mend f(),2,3{stop;}mend any{stop;}", TROUBLE);
        ways("try{fail 1;}mend f(){stop;}mend 1{stop;}mend any{stop;}", TROUBLE);
        ways("try{fail 1;}mend 1{stop;}mend level(1){stop;}mend any{answer;}", ANSWER | TROUBLE);
        ways("try{fail 1;}mend any{stop;}mend f(){stop;}", NEVER);
        ways("try{fail 1;}mend any{stop;}mend f(){stop;}mend any{stop;}", NEVER);
        ways("try{fail 1;}mend 1/1{stop;}mend any{stop;}", NEVER);
        // without a TROUBLE of its BLOCK no mend is asked
        ways("try{}mend f(){}mend any{}", END);
        ways("try{answer;}mend 1/0{}", ANSWER);
    }

    @Holds(promise = 6, term = 3, says = "if its BLOCK MAY be left by TROUBLE, also by what the mends' BLOCKS MAY be, "
            + "up to the first any")
    static void mendsBlocks() {
        ways("try{}mend any{answer;}", END);
        ways("try{answer;}mend any{fail 1;}", ANSWER);
        ways("try{stop;}mend any{answer;}", NEVER);
        ways("try{f();}mend any{answer;}", END | ANSWER);
        ways("try{fail 1;}mend 1{answer;}mend any{fail 2;}", ANSWER | TROUBLE);
        ways("try{fail 1;}mend any{answer;}mend any{fail 2;}", ANSWER);
        ways("try{fail 1;}mend any{answer;}mend 1{fail 2;}mend 2{}", ANSWER);
        ways("try{fail 1;}mend any{fail 2;}", TROUBLE);
        ways("repeat{try{fail 1;}mend any{leave;}}until 1;", END);
    }

    @Holds(promise = 6, term = 3, says = "With an always part (of a try or a ROUND), if what is ahead of it MAY be left "
            + "by any WAY: by what the always part MAY be but its END; and, if it MAY be left at its END, by what is ahead.")
    static void alwaysPartsOfTries() {
        ways("try{}always{}", END);
        ways("try{answer;}always{}", ANSWER);
        ways("try{answer;}always{fail 1;}", TROUBLE);
        ways("try{answer;}always{if a{fail 1;}}", ANSWER | TROUBLE);
        ways("try{fail 1;}always{answer;}", ANSWER);
        ways("try{}always{stop;}", NEVER);
        ways("try{stop;}always{answer;}", NEVER);
        ways("try{stop;}always{}", NEVER);
        ways("try{fail 1;}mend any{stop;}always{answer;}", NEVER);
        ways("try{fail 1;}mend 1{stop;}always{answer;}", ANSWER);
        ways("try{answer;}always{f();}", ANSWER | TROUBLE);
        ways("try{stop;}always{f();}", NEVER);
    }

    @Holds(promise = 6, term = 3, says = "With an always part (of a try or a ROUND), if what is ahead of it MAY be left "
            + "by any WAY: by what the always part MAY be but its END; and, if it MAY be left at its END, by what is ahead.")
    static void alwaysPartsOfRounds() {
        ways("while 1{}always{answer;}", END | ANSWER);
        ways("while 1{stop;}always{answer;}", END);
        ways("while 1{answer;}always{stop;}", END);
        ways("while 1{answer;}always{fail 1;}", END | TROUBLE);
        ways("while 1{answer;}always{if a{fail 1;}}", ALL);
        ways("each i from 1 to 2{answer;}always{leave;}", END);
        ways("repeat{}always{answer;}until 1;", ANSWER);
        ways("repeat{answer;}always{leave;}until 1;", END);
        ways("repeat{answer;}always{again;}until f();", END | TROUBLE);
        ways("repeat{stop;}always{leave;}until 1;", NEVER);
        ways("repeat{}always{stop;}until f();", NEVER);
        ways("repeat{leave;}always{}until f();", END);
        ways("repeat{leave;}always{f();}until 1;", END | TROUBLE);
        ways("x:repeat{repeat{answer;}always{leave x;}until 1;fail 1;}until 1;", END);
    }

    // ---- loops

    @Holds(promise = 6, term = 3,
            says = "A loop: by what a ROUND MAY be, but for END and its own LEAVE and AGAIN; while and each at the END, too")
    static void whilesAndEaches() {
        String[] heads = {"while 1", "while 0", "each i from 1 to 2", "each i from 2 to 1"};
        for (String head : heads) {
            ways(head + "{}", END);
            ways(head + "{stop;}", END);
            ways(head + "{leave;}", END);
            ways(head + "{again;}stop;", NEVER);
            ways(head + "{answer;}", END | ANSWER);
            ways(head + "{fail 1;}", END | TROUBLE);
            ways("repeat{" + head + "{answer;}fail 1;}until 1;", ANSWER | TROUBLE);
        }
    }

    @Holds(promise = 6, term = 3, says = "(LEAVE and AGAIN for each loop by themselves)")
    static void leaveOfAnOuterLoop() {
        // only what the inner loop's rounds do to the outer one can end it
        ways("x:repeat{repeat{leave x;}until 1;fail 1;}until 1;answer;", ANSWER);
        ways("x:repeat{repeat{leave;}until 1;stop;}until 1;answer;", NEVER);
        ways("x:repeat{y:repeat{leave x;}always{if a{leave y;}}until 1;fail 1;}until 1;answer;", ANSWER | TROUBLE);
        ways("x:repeat{y:repeat{leave x;}always{leave y;}until 1;stop;}until 1;answer;", NEVER);
        ways("x:repeat{y:repeat{again x;}until 1;fail 1;}until f();answer;", ANSWER | TROUBLE);
        ways("x:repeat{y:repeat{leave x;}until 1;fail 1;}until f();answer;", ANSWER);
        ways("x:repeat{y:repeat{z:repeat{leave x;}until 1;fail 1;}until 1;fail 1;}until f();answer;", ANSWER);
        ways("x:repeat{y:repeat{z:repeat{leave y;}until 1;fail 1;}until 1;stop;}until f();answer;", NEVER);
        ways("repeat{leave;}until 1;repeat{stop;}until 1;answer;", NEVER);
    }

    @Holds(promise = 6, term = 3, says = "(LEAVE and AGAIN for each loop by themselves)")
    static void leaveOfLoopsAsDeepAsCanBe() {
        StringBuilder body = new StringBuilder();
        for (int i = 0; i < 13; i++) {
            body.append("x").append(i).append(":repeat{");
        }
        for (int i = 0; i < 13; i++) {
            // from the innermost BLOCK out of loop i: all that is behind the loops in it is not reached
            String inner = "leave x" + i + ";";
            StringBuilder text = new StringBuilder(body).append(inner);
            for (int k = 12; k >= 0; k--) {
                text.append("}until 1;").append(k > i ? "fail 1;" : k == i ? "answer;" : "");
            }
            ways(text.toString(), ANSWER);
            ways(text.toString().replace(inner, "again x" + i + ";"), ANSWER);
        }
    }

    @Holds(promise = 6, term = 3, says = "repeat at the END, if a ROUND MAY be left at its END, or by its own LEAVE or AGAIN")
    static void repeats() {
        ways("repeat{}until 1;", END);
        ways("repeat{leave;}until 1;", END);
        ways("repeat{again;}until 1;", END);
        ways("repeat{stop;}until 1;", NEVER);
        ways("repeat{answer;}until 1;", ANSWER);
        ways("repeat{fail 1;}until 1;", TROUBLE);
        ways("repeat{if a{answer;}}until 1;", END | ANSWER);
        ways("repeat{if a{answer;}else{leave;}}until 1;", END | ANSWER);
    }

    // ---- own E's

    @Holds(promise = 6, term = 3, says = "All of these by TROUBLE, too, if one of their own E's MAY fail")
    static void ownEs() {
        ways("var c=f();", END | TROUBLE);
        ways("a=f();", END | TROUBLE);
        ways("note f();", END | TROUBLE);
        ways("answer f();", ANSWER | TROUBLE);
        ways("fail f();", TROUBLE);
        ways("if f(){stop;}else{stop;}", TROUBLE);
        ways("while f(){}stop;", TROUBLE);
        ways("each i from f() to 1{}stop;", TROUBLE);
        ways("each i from 1 to f(){}stop;", TROUBLE);
        ways("choose f(){other{stop;}}", TROUBLE);
        ways("choose f(){when any{stop;}}", TROUBLE);
        ways("hold f(){stop;}", TROUBLE);
    }

    @Holds(promise = 6, term = 3, says = "of choose's LISTS: one ahead of the first any")
    static void ownEsOfLists() {
        ways("choose 1{when f(){stop;}other{stop;}}", TROUBLE);
        ways("choose 1{when 1,2,f(){stop;}when any{stop;}}", TROUBLE);
        ways("choose 1{when f(),2,3{stop;}when any{stop;}}", TROUBLE);
        ways("choose 1{when 1,1/0,3{stop;}when 4{stop;}other{stop;}}", TROUBLE);
        ways("choose 1{when 1{stop;}when f(){stop;}when any{stop;}}", TROUBLE);
        ways("choose 1{when any{stop;}when f(){stop;}}", NEVER);
        ways("choose 1{when 1{stop;}when any{stop;}when 1/0{stop;}other{stop;}}", NEVER);
        ways("choose 1{when 1{stop;}other{stop;}}", NEVER);
    }

    @Holds(promise = 6, term = 3, says = "of repeat: if a ROUND MAY be left at its END or by its AGAIN")
    static void ownEsOfRepeats() {
        ways("repeat{}until f();", END | TROUBLE);
        ways("repeat{again;}until f();", END | TROUBLE);
        ways("repeat{leave;}until f();", END);
        ways("repeat{answer;}until f();", ANSWER);
        ways("repeat{stop;}until f();", NEVER);
        ways("repeat{if a{leave;}else{again;}}until 1/0;", END | TROUBLE);
        ways("x:repeat{repeat{again x;}until f();stop;}until 1;", END);
        ways("x:repeat{repeat{again x;}until 1;stop;}until f();", END | TROUBLE);
    }

    // ---- DUTIES

    @Holds(promise = 6, term = 3, says = "A DUTY's WAYS are what its BLOCK MAY be left by")
    static void dutiesByThemselves() {
        LockKeepers x = with("duty f(){answer;}duty g(){f();stop;}duty h(){}duty i(){stop;}duty j(){fail 1;}");
        int[] due = {ANSWER, TROUBLE, END, NEVER, TROUBLE};
        for (int d = 0; d < due.length; d++) {
            Check.due("duty " + d, x.duty(d, 3), due[d]);
        }
    }

    @Holds(promise = 6, term = 3, says = "and of each later in it (wherever it stands) ANSWER and TROUBLE, if its BLOCK MAY be")
    static void latersWhereverTheyStand() {
        ways("later{}", END | TROUBLE);
        ways("later{answer;}", ALL);
        ways("later{fail 1;}stop;", TROUBLE);
        ways("stop;later{}", NEVER);
        ways("stop;later{stop;}", NEVER);
        ways("stop;later{answer;}", ANSWER);
        ways("stop;later{fail 1;}", TROUBLE);
        ways("stop;later{f();}", TROUBLE);
        ways("stop;later{if a{answer;}f();}", ANSWER | TROUBLE);
        ways("stop;later{stop;answer;}", NEVER);
        ways("stop;later{while 1{leave;}}", NEVER);
        ways("stop;later{stop;later{answer;}}", ANSWER);
        ways("stop;later{later{}}", TROUBLE);
        ways("answer;if 0{try{}mend any{later{fail 1;}}}", ANSWER | TROUBLE);
        ways("answer;choose 1{when any{}when 1{later{fail 1;}}}", ANSWER | TROUBLE);
        // its END is not the DUTY's
        ways("answer;later{}", ANSWER);
        LockKeepers x = with("duty f(){stop;later{answer;}}duty g(){stop;}");
        Check.due("of this one", x.duty(0, 3), ANSWER);
        Check.due("not of the next", x.duty(1, 3), NEVER);
    }

    @Holds(promise = 6, says = "3 its WAYS (1 END, 2 ANSWER, 4 TROUBLE, added)")
    static void waysAreAdded() {
        ways("stop;", 0);
        ways("", 1);
        ways("answer;", 2);
        ways("if 1{answer;}", 3);
        ways("fail 1;", 4);
        ways("if 1{fail 1;}", 5);
        ways("if 1{fail 1;}else{answer;}", 6);
        ways("if 1{fail 1;}if 1{answer;}", 7);
    }
}
