/** Each promise of the document: ordinary inputs, the edges that it names, and wrong inputs. */
public final class PromisesTest extends Bench {
    private PromisesTest() {
    }

    public static void main(String[] args) {
        newObject();
        feed();
        end();
        readAndTokens();
        readFaultsOfTokens();
        readNests();
        readFaultsOfNames();
        readLimits();
        readKeepsTheOldBook();
        fault();
        duty();
        dutyWays();
        dutyWaysOfParts();
        fill();
        chamber();
        berth();
        runRefusals();
        runValues();
        runKinds();
        runGates();
        runSluice();
        runSail();
        runQueries();
        runLoops();
        runAlwaysOfLoops();
        runChoose();
        runHold();
        runEnsure();
        runTry();
        runMendsAsked();
        runLater();
        runCauses();
        runDeep();
        runFuel();
        runLongAndAgain();
        runOver();
        told();
        log();
        look();
        Check.finish("PromisesTest");
    }

    // ---- promises 1 to 3

    private static void newObject() {
        LockKeepers x = new LockKeepers();
        Check.due("new: the tape is empty", x.end(1), false);
        Check.due("new: end(0)", x.end(0), true);
        Check.due("new: no book", x.duty(-1, 0), -1);
        Check.due("new: no duty", x.duty(0, 0), -1);
        Check.due("new: fault(0)", x.fault(0), 0);
        Check.due("new: fault(1)", x.fault(1), -1);
        for (int k = 0; k < 6; k++) {
            for (int what = 0; what < 4; what++) {
                Check.due("new: look " + what, x.look(what, k), 0);
            }
        }
        for (int k = 0; k < 7; k++) {
            Check.due("new: reach", x.look(4, k), 0);
            Check.due("new: ship", x.look(5, k), 0);
        }
        Check.due("new: water", x.look(6, 0), 0);
        for (int what = -1; what < 20; what++) {
            boolean none = what == -1 || what == 0 || what == 4 || what == 19;
            Check.due("new: told " + what, x.told(what), none ? -1 : 0);
        }
        Check.due("new: log", x.log(0, 0), -1);
        Check.due("NONE", LockKeepers.NONE, -1);
    }

    private static void feed() {
        LockKeepers x = new LockKeepers();
        for (int i = 0; i < 150; i++) {
            Check.due("feed " + i, x.feed(i, i, i, i, i), true);
        }
        Check.due("feed beyond 3000", x.feed(0, 0, 0, 0, 0), false);
        Check.due("3000 bytes", x.end(3000), true);
        Check.due("end(2981)", x.end(2981), true);
        Check.due("feed from 2981", x.feed(0, 0, 0, 0, 0), false);
        Check.due("nothing came", x.end(2982), false);
        Check.due("end(2980)", x.end(2980), true);
        Check.due("feed from 2980", x.feed(0, 0, 0, 0, 0), true);
        Check.due("end(3001)", x.end(3001), false);
        // signs below 32, 127 and above 127 come as blanks, 10 stays and ends a comment
        Check.due("all blanks", Check.read(fed(), "duty\u0001f\u007f(\u0080)\u00ff{}\t\r"), 0);
        Check.due("10 ends a comment", Check.read(fed(), "#x\nduty f(){}"), 0);
        Check.due("others do not", Check.read(fed(), "#x\rduty f(){}"), 2);
        Check.due("126 is a sign", Check.read(fed(), "~duty f(){}"), 1);
        // the highest byte of each int first
        LockKeepers y = new LockKeepers();
        y.feed(0x64757479, 0x20662829, 0x7b7d2020, 0x20202020, 0x20202021);
        Check.due("the last byte is !", y.read(), 1);
        Check.due("at 19", y.fault(1), 19);
    }

    private static LockKeepers fed() {
        return new LockKeepers();
    }

    private static void end() {
        LockKeepers x = new LockKeepers();
        x.feed(0x64757479, 0x20662829, 0x7b7d2121, 0x20202020, 0x20202020);
        Check.due("end(-1)", x.end(-1), false);
        Check.due("end(least)", x.end(Integer.MIN_VALUE), false);
        Check.due("end(21)", x.end(21), false);
        Check.due("end(20)", x.end(20), true);
        Check.due("end(10)", x.end(10), true);
        Check.due("end(11) behind it", x.end(11), false);
        Check.due("the first ten bytes", x.read(), 0);
        Check.due("the tape is empty then", x.end(1), false);
        x.feed(0x64757479, 0x20662829, 0x7b7d2121, 0x20202020, 0x20202020);
        x.end(0);
        Check.due("nothing is left", x.read(), 2);
        Check.due("the end's place", x.fault(1), 0);
    }

    // ---- promise 4

    private static void readAndTokens() {
        fine("duty f(){}");
        fine(" #\n\n duty\nf ( ) { } # the end");
        fine("duty f(){}#");
        fine("duty abcdefgh(z9){z9=z9;}");
        fine("duty dutyx(){var if0=000000001;note if0;}");
        fine("duty f(a){each i from 1to 2{}a=1<=2;a=1<2;a=1==2;a=1!=2;a=a<-1;}");
        fine("duty f(a,b,c,d,e,g,h,i){f(1,2,3,4,5,6,7,8);}");
        fine("duty f(f){f:while f{f=f(f);leave f;}}");
        faulty("", 2, 0);
        faulty("  # x", 2, 5);
        faulty("duty f(){} x", 2, 11);
        faulty("x", 2, 0);
        faulty("duty if(){}", 2, 5);
        faulty("duty f(a,){}", 2, 9);
        faulty("duty f(a b){}", 2, 9);
        faulty("duty f(){", 2, 9);
        faulty("duty f(){ #}", 2, 12);
        faulty("duty f()", 2, 8);
        faulty("duty 1f(){}", 2, 5);
    }

    private static void readFaultsOfTokens() {
        faultyBody("^A", 1);
        faultyBody("a^>1", 1);
        faultyBody("a=1 ^!1", 1);
        faultyBody("a=^abcdefghi;", 1);
        faultyBody("a=^abcdefgh1;", 1);
        faultyBody("a=^1234567890;", 1);
        faultyBody("a=^0000000001;", 1);
        faultyBody("a=1^_", 1);
        faultyBody("a=1 ^1;", 2);
        faultyBody("a=12^ab;", 2);
        faultyBody("a=1<1^<1;", 2);
        faultyBody("a=1==1^==1;", 2);
        faultyBody("a=1+^not 1;", 2);
        faultyBody("a=1==^not 1;", 2);
        faultyBody("a=-^not 1;", 2);
        faultyBody("a^===1;", 2);
        faultyBody("a=(1^;", 2);
        faultyBody("a=1^)", 2);
        faultyBody("^;", 2);
        faultyBody("^1;", 2);
        faultyBody("a^;", 2);
        faultyBody("a:^a=1;", 2);
        faultyBody("a:^{}", 2);
        faultyBody("^else{}", 2);
        faultyBody("if 1 ^a=1;", 2);
        faultyBody("if 1{}else ^if 1{}", 2);
        faultyBody("try{}^}", 2);
        faultyBody("try{}^try{}", 2);
        faultyBody("try{}always{}^mend any{}", 2);
        faultyBody("try{}mend any^,1{}", 2);
        faultyBody("try{}mend ^{}", 2);
        faultyBody("choose 1 ^a", 2);
        faultyBody("choose 1{other{}^when 1{}}", 2);
        faultyBody("choose 1{^a=1;}", 2);
        faultyBody("repeat{}^}", 2);
        faultyBody("repeat{}until 1 ^}", 2);
        faultyBody("each a ^to 1{}", 2);
        faultyBody("each ^1 from 1 to 2{}", 2);
        faultyBody("open 1^;", 2);
        faultyBody("sluice 1,1^;", 2);
        faultyBody("sail 1,1^,1;", 2);
        faultyBody("note ^;", 2);
        faultyBody("fail ^;", 2);
        faultyBody("leave ^1;", 2);
        faultyBody("stop ^1;", 2);
        faultyBody("later ^;", 2);
        faultyBody("var a^;", 2);
        faultyBody("note gate(1^);", 2);
        faultyBody("note level ^1;", 2);
        faultyBody("note kind^(1);", 2);
        faultyBody("^level(1);", 2);
        faultyBody("f(1,^);", 2);
        faultyBody("answer 1^,", 2);
        // the first token counts, whatever NAMES mean ahead of it
        faultyBody("zz=1;leave;^>", 1);
        faultyBody("zz=1;leave;^)", 2);
    }

    private static void readNests() {
        // the duty's own BLOCK is one
        fine("duty f(){" + times("{", 13) + times("}", 13) + "}");
        faulty("duty f(){" + times("{", 14), 3, 9 + 13);
        fine("duty f(){note " + times("(", 13) + "1" + times(")", 13) + ";}");
        faulty("duty f(){note " + times("(", 14) + "1", 3, 14 + 13);
        fine("duty f(){note " + times("-", 13) + "1+(-1)+f();}");
        faulty("duty f(){note " + times("-", 14) + "1", 3, 14 + 13);
        fine("duty f(){note " + times("not ", 13) + "1;}");
        faulty("duty f(){note " + times("not ", 14) + "1", 3, 14 + 4 * 13);
        fine("duty f(a){note " + times("f(", 13) + "1" + times(")", 13) + ";}");
        faulty("duty f(a){note " + times("f(", 14), 3, 15 + 2 * 13 + 1);
        faulty("duty f(){note " + times("level(", 14), 3, 14 + 6 * 13 + 5);
        fine("duty f(){" + times("choose 1{when 1{", 6) + "note(1);" + times("}}", 6) + "}");
        faulty("duty f(){" + times("choose 1{when 1{", 6) + "choose 1{when", 2, 9 + 16 * 6 + 13);
        faulty("duty f(){" + times("choose 1{when 1{", 6) + "note((1", 3, 9 + 16 * 6 + 5);
        faulty("duty f(){" + times("choose 1{when 1{", 6) + "choose 1{when 1{", 3, 9 + 16 * 6 + 15);
        // what can't stand there is that first
        faulty("duty f(){" + times("{", 13) + "note {", 2, 9 + 13 + 5);
        faulty("duty f(){" + times("{", 13) + "note (>", 3, 9 + 13 + 5);
        // a - ends with its UNIT, a not with its NOT
        fine("duty f(){" + times("{", 12) + "note -1-1--1+(1);note not 1 and not 1 or(1);" + times("}", 13));
        faulty("duty f(){" + times("{", 12) + "note -(1", 3, 9 + 12 + 6);
        // all of them behind one another
        fine("duty f(){" + times("{", 12) + times("{}", 20) + times("note gate(1,1)+f()+(1);", 20) + times("}", 13));
        fine("duty f(){" + times("choose 1{when any{}other{}}", 20) + times("try{}mend any{}always{}", 20) + "}");
    }

    private static void readFaultsOfNames() {
        faulty("duty f(){}duty f(){}", 4, 15);
        faulty("duty f(a,a){}", 4, 9);
        faultyBody("var ^a=1;}", 4);
        faultyBody("var c=1;{var ^c=1;}}", 4);
        faultyBody("each ^a from 1 to 2{}}", 4);
        faultyBody("x:while 1{^x:while 1{}}}", 4);
        faultyBody("x:while 1{}always{^x:while 1{}}}", 4);
        faultyBody("while 1{x:repeat{try{^x:each i from 1 to 1{}}always{}}until 1;}}", 4);
        fine("duty f(){{var c=1;}{var c=2;}var c=3;}");
        fine("duty f(){x:while 1{}x:while 1{later{x:while 1{leave x;}}}}");
        fine("duty f(){x:while 1{while 1{later{}later{later{}}leave;again x;}again;leave x;}}");
        fine("duty f(){each i from 1 to 2{}each i from 1 to 2{}always{note i;}}duty g(i){}");
        faultyBody("note ^c;}", 5);
        faultyBody("^c=1;}", 5);
        faultyBody("var c=^c;}", 5);
        faultyBody("var c=1;{var d=1;}note ^d;}", 5);
        faultyBody("note ^c;var c=1;}", 5);
        faultyBody("each i from ^i to 1{}}", 5);
        faultyBody("each i from 1 to ^i{}}", 5);
        faultyBody("each i from 1 to 2{}note ^i;}", 5);
        faultyBody("repeat{var c=1;}until ^c;}", 5);
        faultyBody("while 1{var c=1;}always{note ^c;}}", 5);
        faultyBody("^g();}", 5);
        faultyBody("a=^g(1);}", 5);
        faultyBody("note ^main;}", 5);
        faultyBody("^b();}", 5);
        faultyBody("x:while 1{leave ^y;}}", 5);
        faultyBody("x:while 1{}while 1{leave ^x;}}", 5);
        faultyBody("x:while 1{later{leave ^x;}}}", 5);
        faultyBody("leave ^a;}", 5);
        faultyBody("^leave;}", 6);
        faultyBody("^again;}", 6);
        faultyBody("while 1{}^again;}", 6);
        faultyBody("while 1{later{^leave;}}}", 6);
        faultyBody("while 1{later{while 1{again;}always{leave;}^leave;}}}", 6);
        faultyBody("^main();}", 7);
        faultyBody("^main(1);}", 7);
        faultyBody("^main(1,2,3);}", 7);
        faultyBody("a=1+^main(main(1,2),3,c);}", 7);
        faultyBody("main(main(1,2),^main(1));}", 7);
        // calls ahead of the duty that is meant, the first one of its NAME
        faulty("duty f(){g(1,2);}duty g(a){}duty g(a,b){}", 7, 9);
        faulty("duty f(){g(1);}duty g(a){}duty g(a,b){}", 4, 31);
        // the first by its place
        faultyBody("{^leave;}note c;}", 6);
        faulty("duty f(){note c;}duty f(){}", 5, 14);
        faulty("duty f(a,a){f(1);}", 4, 9);
    }

    private static void readLimits() {
        fine(times("duty f#(){}", 30));
        faulty(times("duty f#(){}", 31), 8, 10 * 11 + 20 * 12 + 5);
        faulty(times("duty f#(){}", 30) + "duty f0(){}", 4, 10 * 11 + 20 * 12 + 5);
        faulty("duty x(){f30(1);}" + times("duty f#(){}", 31), 7, 9);
        faulty("duty x(){f30();}" + times("duty f#(){}", 31), 8, 16 + 10 * 11 + 19 * 12 + 5);
        fine("duty f(a,b,c,d,e,g,h,i){}");
        faulty("duty f(a,b,c,d,e,g,h,i,j){note j;}", 8, 23);
        faulty("duty f(a,b,c,d,e,g,h,i,a){}", 4, 23);
        faulty("duty x(){f(1,2,3,4,5,6,7,8,9);}duty f(a,b,c,d,e,g,h,i,j){}", 8, 31 + 23);
        faulty("duty x(){f(1,2,3,4,5,6,7,8);}duty f(a,b,c,d,e,g,h,i,j){}", 7, 9);
        LockKeepers x = with("duty f(a,b){" + times("{var v=1;}", 11) + times("each i from 1 to 2{}", 11) + "}");
        Check.due("24 variables", x.duty(0, 1), 24);
        faulty("duty f(){" + times("{var v=1;}", 24) + "{var w=w;}", 2, 9 + 240 + 10);
        faulty("duty f(){" + times("{var v=1;}", 24) + "{var w=w;}}", 8, 9 + 240 + 5);
        faulty("duty f(){" + times("{var v=1;}", 24) + "each w from w to 1{}}", 8, 9 + 240 + 5);
        fine("duty f(){" + times("{var v=1;}", 24) + "}duty g(){" + times("{var v=1;}", 24) + "}");
        StringBuilder full = new StringBuilder("duty f(){");
        while (full.length() < 2999) {
            full.append(full.length() < 2990 ? "f();" : " ");
        }
        LockKeepers y = with(full.append("}").toString());
        Check.due("the longest text runs", y.run(0, 0, 0, 20000), 3);
    }

    private static void readKeepsTheOldBook() {
        LockKeepers x = with("duty f(){answer 5;}");
        Check.due("a faulty text", Check.read(x, "duty g("), 2);
        Check.due("the old book stays", x.duty(-1, 0), 1);
        Check.due("its run", x.run(0, 0, 0, 10), 0);
        Check.due("its answer", x.told(1), 5);
        Check.due("a fault of names", Check.read(x, "duty g(){h();}"), 5);
        Check.due("it stays again", x.duty(0, 2), 5);
        Check.due("a new one", Check.read(x, "duty  g(){answer 6;}duty h(){}"), 0);
        Check.due("takes its place", x.duty(-1, 0), 2);
        x.run(0, 0, 0, 10);
        Check.due("the new answer", x.told(1), 6);
        Check.due("the same text again", Check.read(x, "duty  g(){answer 6;}duty h(){}"), 0);
        LockKeepers y = with("duty h(){}");
        Check.due("a duty of the old book", Check.read(y, "duty f(){}duty h(){}"), 0);
        Check.due("with a fault at a NEST", Check.read(x, "duty g(){{{if 1 a"), 2);
        Check.due("no more NESTS then", Check.read(x, "duty g(){" + times("{", 14)), 3);
        Check.due("with a fault in a NEST", Check.read(x, "duty g(){{{{((-(1"), 2);
        Check.due("and all NESTS free then", Check.read(x, "duty g(){" + times("{", 13) + times("}", 14)), 0);
    }

    // ---- promises 5 and 6

    private static void fault() {
        LockKeepers x = new LockKeepers();
        Check.read(x, "duty f(){>}");
        Check.due("fault 0", x.fault(0), 1);
        Check.due("fault 1", x.fault(1), 9);
        Check.due("fault 2", x.fault(2), -1);
        Check.due("fault -1", x.fault(-1), -1);
        Check.read(x, "duty f(){}");
        Check.due("fault 0 without one", x.fault(0), 0);
        Check.due("fault 1 without one", x.fault(1), -1);
    }

    private static void duty() {
        LockKeepers x = with("duty f(){}\nduty gg(a,b){var c=1;each d from 1 to 2{}{var c0=1;}}");
        int[][] due = {{0, 0, 5, 1}, {2, 5, 16, 1}};
        for (int d = 0; d < 2; d++) {
            for (int what = 0; what < 4; what++) {
                Check.due("duty " + d + " " + what, x.duty(d, what), due[d][what]);
            }
            Check.due("duty " + d + " -1", x.duty(d, -1), -1);
            Check.due("duty " + d + " 4", x.duty(d, 4), -1);
        }
        Check.due("duty 2", x.duty(2, 0), -1);
        Check.due("duty -2", x.duty(-2, 0), -1);
        Check.due("duty most", x.duty(Integer.MAX_VALUE, 0), -1);
        Check.due("duty NONE", x.duty(-1, 0), 2);
        Check.due("duty NONE 1", x.duty(-1, 1), -1);
        Check.due("duty NONE -1", x.duty(-1, -1), -1);
    }

    private static void dutyWays() {
        ways("", END);
        ways("note 1;", END);
        ways("note f();", END | TROUBLE);
        ways("note kind+cause;", END);
        ways("note held(0);", END | TROUBLE);
        ways("a=a/2;", END);
        ways("a=a%((2));", END);
        ways("a=a/0;", END | TROUBLE);
        ways("a=a/b;", END | TROUBLE);
        ways("a=a/(1+1);", END | TROUBLE);
        ways("a=a/-2;", END | TROUBLE);
        ways("a=a/2/a;", END | TROUBLE);
        ways("a=1 or f();", END | TROUBLE);
        String[] joined = {"f() or 1", "f() and 1", "1 and f()", "f()==1", "1<f()", "f()+1", "1-f()", "f()*2", "2*f()",
            "f()/2", "not f()", "-f()", "(f())", "main(f(),1)", "a/b or 1"};
        for (String e : joined) {
            ways("a=" + e + ";", END | TROUBLE);
        }
        String[] safe = {"1 or 2", "1 and 2", "not 1", "-1", "1==2", "1<2", "1+2", "2*3", "(a)", "a/2*b%3", "kind or cause"};
        for (String e : safe) {
            ways("a=" + e + ";", END);
        }
        ways("answer;", ANSWER);
        ways("answer 1;", ANSWER);
        ways("answer f();", ANSWER | TROUBLE);
        ways("fail 1;", TROUBLE);
        ways("stop;", 0);
        ways("stop;answer;", 0);
        ways("answer;fail 1;", ANSWER);
        ways("f();", END | TROUBLE);
        ways("open 0,0;", END | TROUBLE);
        ways("shut 0,0;", END | TROUBLE);
        ways("sluice 0,0,0;", END | TROUBLE);
        ways("sail 0,0;", END | TROUBLE);
        ways("f();answer;", ANSWER | TROUBLE);
        ways("if a{answer;}", END | ANSWER);
        ways("if a{answer;}else{fail 1;}", ANSWER | TROUBLE);
        ways("if f(){stop;}else{stop;}", TROUBLE);
        ways("hold 0{}", END | TROUBLE);
        ways("hold 0{stop;}", TROUBLE);
        ways("ensure 1{}", END | TROUBLE);
        ways("ensure 1{answer;}", ANSWER | TROUBLE);
        ways("ensure f(){stop;}", 0);
        ways("later{}", END | TROUBLE);
        ways("later{answer;}", END | ANSWER | TROUBLE);
        ways("stop;later{answer;}", ANSWER);
        ways("stop;later{fail 1;later{answer;}}", ANSWER | TROUBLE);
        ways("stop;later{}", 0);
        LockKeepers x = with("duty f(){stop;later{answer;fail 1;}}duty g(){}");
        Check.due("ways of a duty with a later", x.duty(0, 3), ANSWER);
        Check.due("ways of the next one", x.duty(1, 3), END);
        ways("answer;if 1{while 1{later{fail 1;}}}", ANSWER | TROUBLE);
    }

    private static void dutyWaysOfParts() {
        ways("choose 1{}", END);
        ways("choose 1{when 1{answer;}}", END | ANSWER);
        ways("choose 1{when 1{answer;}other{stop;}}", ANSWER);
        ways("choose 1{when 1{stop;}when any{answer;}when f(){fail 1;}other{fail 1;}}", ANSWER);
        ways("choose 1{when f(){stop;}when any{stop;}}", TROUBLE);
        ways("choose f(){when any{stop;}}", TROUBLE);
        ways("choose 1{when any{stop;}when 2{}}", 0);
        ways("choose 1{other{answer;}}", ANSWER);
        ways("while 1{}", END);
        ways("while f(){}", END | TROUBLE);
        ways("while 1{answer;}", END | ANSWER);
        ways("while 1{leave;}answer;", ANSWER);
        ways("each i from 1 to f(){}", END | TROUBLE);
        ways("each i from 1 to 2{stop;}", END);
        ways("each i from 1 to 2{answer;}", END | ANSWER);
        ways("each i from 1 to 2{if i{leave;}again;}stop;", 0);
        ways("repeat{}until 1;", END);
        ways("repeat{answer;}until 1;", ANSWER);
        ways("repeat{answer;}until f();", ANSWER);
        ways("repeat{again;}until f();", END | TROUBLE);
        ways("repeat{leave;}until f();", END);
        ways("repeat{}always{stop;}until 1;", 0);
        ways("repeat{stop;}always{answer;}until 1;", 0);
        ways("repeat{answer;}always{leave;}until 1;", END);
        ways("x:repeat{repeat{leave x;}until 1;answer;}until 1;", END);
        ways("x:repeat{repeat{again x;}until 1;answer;}until f();", END | TROUBLE);
        ways("x:repeat{repeat{leave;}always{leave x;}until 1;answer;}until 1;", END);
        ways("try{}always{}", END);
        ways("try{fail 1;}always{}", TROUBLE);
        ways("try{fail 1;}mend any{}", END);
        ways("try{fail 1;}mend 1{}", END | TROUBLE);
        ways("try{fail 1;}mend 1,f(){answer;}mend any{answer;}", ANSWER | TROUBLE);
        ways("try{fail 1;}mend any{answer;}mend f(){stop;}mend 2{}", ANSWER);
        ways("try{answer;}mend any{fail 1;}", ANSWER);
        ways("try{}mend f(){}", END);
        ways("try{fail 1;}always{answer;}", ANSWER);
        ways("try{stop;}always{answer;}", 0);
        ways("try{fail 1;}mend any{stop;}always{answer;}", 0);
        ways("try{answer;}always{if a{fail 1;}}", ANSWER | TROUBLE);
        ways("try{answer;}always{stop;}", 0);
    }

    // ---- promises 7 to 9

    private static void fill() {
        LockKeepers x = new LockKeepers();
        Check.due("fill(0, 100000)", x.fill(0, 100000), true);
        Check.due("fill(6, 7)", x.fill(6, 7), true);
        Check.due("fill(6, 100001)", x.fill(6, 100001), false);
        Check.due("fill(6, -1)", x.fill(6, -1), false);
        Check.due("fill(7, 1)", x.fill(7, 1), false);
        Check.due("fill(-1, 1)", x.fill(-1, 1), false);
        Check.due("reach 0", x.look(4, 0), 100000);
        Check.due("reach 6", x.look(4, 6), 7);
        Check.due("fill(6, 0)", x.fill(6, 0), true);
        Check.due("reach 6 again", x.look(4, 6), 0);
    }

    private static void chamber() {
        LockKeepers x = with("duty f(k,s){hold k{open k,s;}}duty g(k,s){hold k{shut k,s;}}");
        Check.due("chamber(5, 10000)", x.chamber(5, 10000), true);
        Check.due("chamber(5, 10001)", x.chamber(5, 10001), false);
        Check.due("chamber(5, -1)", x.chamber(5, -1), false);
        Check.due("chamber(6, 0)", x.chamber(6, 0), false);
        Check.due("chamber(-1, 0)", x.chamber(-1, 0), false);
        Check.due("chamber 5", x.look(0, 5), 10000);
        for (int s = 0; s < 2; s++) {
            x.run(0, 2, s, 100);
            Check.due("chamber with an open gate", x.chamber(2, 3), false);
            Check.due("chamber 2", x.look(0, 2), 0);
            x.run(1, 2, s, 100);
            Check.due("chamber with shut gates", x.chamber(2, 3), true);
            Check.due("chamber 2", x.look(0, 2), 3);
            x.chamber(2, 0);
        }
    }

    private static void berth() {
        LockKeepers x = new LockKeepers();
        Check.due("berth(0, 12)", x.berth(0, 12), true);
        Check.due("berth(7, 12)", x.berth(7, 12), true);
        Check.due("berth(0, 13)", x.berth(0, 13), false);
        Check.due("berth(0, -1)", x.berth(0, -1), false);
        Check.due("berth(8, 0)", x.berth(8, 0), false);
        Check.due("berth(-1, 0)", x.berth(-1, 0), false);
        Check.due("berth(1, 11)", x.berth(1, 11), true);
        Check.due("berth(2, 11)", x.berth(2, 11), false);
        Check.due("berth(1, 11) again", x.berth(1, 11), true);
        Check.due("ship 2", x.look(5, 2), 0);
        Check.due("ship 1", x.look(5, 1), 11);
        x.berth(1, 0);
        Check.due("berth(2, 11) then", x.berth(2, 11), true);
    }

    // ---- promise 10

    private static void runRefusals() {
        LockKeepers x = new LockKeepers();
        Check.due("no book", thrown(x, 0, 10), 1);
        Check.due("no book, and no such duty", thrown(x, 5, -1), 1);
        Check.read(x, "duty f(){while 1{}}duty g(){note 1;}");
        x.run(1, 0, 0, 10);
        Check.due("no such duty", thrown(x, 2, 10), 2);
        Check.due("no such duty below 0", thrown(x, -1, 10), 2);
        Check.due("fuel -1", thrown(x, 0, -1), 2);
        Check.due("fuel 20001", thrown(x, 0, 20001), 2);
        Check.due("the log stays", x.told(16), 1);
        Check.due("the outcome stays", x.told(0), 0);
        Check.due("fuel 20000", x.run(0, 0, 0, 20000), 2);
        for (int i = 0; i < 9; i++) {
            x.run(0, 0, 0, i < 8 ? 20000 : 19997);
        }
        Check.due("all fuel but one", x.told(17), 199999);
        Check.due("one run more", x.run(0, 0, 0, 20000), 2);
        Check.due("more than all", x.told(17), 219999);
        Check.due("no run more", thrown(x, 0, 0), 1);
        Check.due("not even a wrong one", thrown(x, 9, 0), 1);
        Check.due("told stays", x.told(17), 219999);
        LockKeepers y = with("duty f(){while 1{}}duty g(){}");
        for (int i = 0; i < 10; i++) {
            y.run(0, 0, 0, 20000);
        }
        Check.due("just all", thrown(y, 1, 10), 1);
    }

    private static void runValues() {
        notes("1+2*3-4/2%3", 5);
        notes("7/2*2", 6);
        notes("-7/2", -3);
        notes("-7%4", -3);
        notes("7%-4", 3);
        notes("2-3-4", -5);
        notes("-(2-3)", 1);
        notes("--2", 2);
        notes("(999999999+999999999+147483649)", Integer.MAX_VALUE);
        notes("(999999999+999999999+147483650)", Integer.MIN_VALUE);
        notes("(999999999+999999999+147483650)/-1", Integer.MIN_VALUE);
        notes("(999999999+999999999+147483650)%-1", 0);
        notes("-(999999999+999999999+147483650)", Integer.MIN_VALUE);
        notes("65536*65536", 0);
        notes("1<2", 1);
        notes("2<2", 0);
        notes("2<=2", 1);
        notes("3<=2", 0);
        notes("2==2", 1);
        notes("2!=2", 0);
        notes("not 5", 0);
        notes("not 0", 1);
        notes("not not 7", 1);
        notes("not 1==2", 1);
        notes("not 0+1", 0);
        notes("5 or 1/0", 1);
        notes("0 and 1/0", 0);
        notes("0 or 7", 1);
        notes("5 and 7", 1);
        notes("5 and 0", 0);
        notes("0 or 0", 0);
        notes("1 or 0 and 0", 1);
        notes("0 and 1 or 1", 1);
        notes("a*10+b", 34);
        notes("kind+cause", 0);
        notes("007", 7);
        does("var c=a;a=c+1;note a;note c;", 0, 0, 4, 0, 3);
        LockKeepers x = ran("duty f(a,b,c,d){note a;note b;note c;note d;}", 8, 9, 0);
        logIs("parameters", x, 0, 8, 0, 9, 0, 0, 0, 0);
        x = ran("duty f(){note g(1,2)+g(3,4);}duty g(a,b){note a;answer a*10+b;}", 8, 9, 0);
        logIs("calls", x, 0, 1, 0, 3, 0, 46);
        x = ran("duty f(){note g();}duty g(){var c=5;}", 0, 0, 0);
        logIs("a call without an answer", x, 0, 0);
        x = ran("duty f(){note 5+g()*2;note 5+h();}duty g(){answer;}duty h(){}", 0, 0, 0);
        logIs("answers of 0", x, 0, 5, 0, 5);
        x = ran("duty f(a){if a{f(a-1);}note a;}", 2, 0, 0);
        logIs("a place of its own in each call", x, 0, 0, 0, 1, 0, 2);
        Check.due("answer", ran("duty f(a){answer a+1;note 1;}", 2, 0, 0).told(1), 3);
        Check.due("no E", ran("duty f(a){answer;}", 2, 0, 0).told(18), ANSWER);
    }

    private static void runKinds() {
        does("note 1/0;", 3, 7, 1);
        does("note 1%(a-3);", 3, 7, 1);
        does("fail 9;", 3, 7, 10);
        does("fail 10;", 3, 7, 10);
        does("fail 99;", 3, 7, 99);
        does("fail 100;", 3, 7, 10);
        does("fail -5;", 3, 7, 10);
        LockKeepers x = did(" if 1{ a=1; x:while a/0{}}", 3);
        Check.due("the place of a labelled loop's E", x.told(4), inMain(12));
        x = did("note 1; if 1/0{note 2;}", 3);
        Check.due("the place of an if's E", x.told(4), inMain(8));
        x = did("while a{a=a-1;note 6/a;}", 3);
        Check.due("the place within a loop", x.told(4), inMain(14));
        x = did("x:while 2/a+1{a=a-1;}", 3);
        Check.due("the place of a later asking", x.told(4), inMain(0));
        x = did("repeat{note 1;}until 1/0;", 3);
        Check.due("the place of a repeat's E", x.told(4), inMain(0));
        x = ran("duty f(){note g()/0;}duty g(){note 1;}", 0, 0, 3);
        Check.due("the place behind a call", x.told(4), 9);
        x = ran("duty f(){note g();}duty g(){note 1/0;}", 0, 0, 3);
        Check.due("the place in a call", x.told(4), 28);
        does("try{note 1/0;}mend 1{note kind;note cause;}", 0, 7, 1, 8, 1, 0, 1, 0, 0);
    }

    private static void runGates() {
        LockKeepers x = with("duty op(k,s){hold k{open k,s;}}duty sh(k,s){hold k{shut k,s;}}"
                + "duty o2(k,s){open k,s;}duty s2(k,s){shut k,s;}");
        int[][] wrong = {{-1, 0}, {6, 0}, {0, 2}, {0, -1}};
        for (int[] w : wrong) {
            for (int d = 2; d < 4; d++) {
                Check.due("gate " + w[0] + " " + w[1], x.run(d, w[0], w[1], 100), 3);
                Check.due("its kind", x.told(2), 3);
            }
        }
        for (int d = 2; d < 4; d++) {
            Check.due("not held", x.run(d, 0, 0, 100), 3);
            Check.due("its kind", x.told(2), 4);
        }
        Check.due("open 5, 1", x.run(0, 5, 1, 100), 0);
        logIs("open 5, 1", x, 1, 5, 3, 11, 2, 5);
        Check.due("upper gate 5", x.look(2, 5), 1);
        Check.due("lower gate 5", x.look(1, 5), 0);
        x.run(0, 5, 1, 100);
        logIs("open 5, 1 again", x, 1, 5, 3, 11, 2, 5);
        x.fill(5, 500);
        x.run(0, 5, 0, 100);
        logIs("the other gate is open ahead of uneven", x, 1, 5, 7, 6, 2, 5);
        x.fill(6, 20);
        x.run(0, 5, 1, 100);
        logIs("asked though it is open", x, 1, 5, 7, 5, 2, 5);
        x.run(1, 5, 1, 100);
        logIs("shut 5, 1", x, 1, 5, 4, 11, 2, 5);
        x.run(1, 5, 1, 100);
        logIs("shut 5, 1 again", x, 1, 5, 4, 11, 2, 5);
        x.fill(0, 119);
        int[][] even = {{9, 5}, {10, 0}, {11, 0}, {12, 0}, {13, 5}};
        for (int[] e : even) {
            x.run(1, 0, 0, 100);
            x.chamber(0, e[0]);
            x.run(0, 0, 0, 100);
            Check.due("chamber " + e[0] + ", reach 11", x.told(2), e[1]);
        }
    }

    private static LockKeepers sluiced(int chamber, int reach, int n, int fuel) {
        LockKeepers x = with("duty f(n){hold 1{sluice 1,1,n;}}");
        x.chamber(1, chamber);
        x.fill(2, reach);
        x.run(0, n, 0, fuel);
        return x;
    }

    private static void runSluice() {
        int[][] due = {
            {10, 0, 1000, 9}, {10, 0, 3, 3}, {10, 0, 0, 0}, {10, 100, 9, 0}, {10, 109, 9, 0}, {10, 110, 9, 1},
            {9, 100, 9, 1}, {0, 1000, 1000, 90}, {0, 105, 1000, 9}, {0, 9, 5, 0}, {1, 9, 5, 1}, {2, 9, 5, 1}};
        for (int[] c : due) {
            LockKeepers x = sluiced(c[0], c[1], c[2], 2000);
            String who = "sluice " + c[0] + " " + c[1] + " " + c[2];
            int sign = c[0] > c[1] / 10 ? 1 : -1;
            logIs(who, x, 1, 1, 5, 30000 + went(c), 2, 1);
            Check.due(who + " chamber", x.look(0, 1), c[0] - sign * went(c));
            Check.due(who + " reach", x.look(4, 2), c[1] + sign * went(c));
            Check.due(who + " fuel", x.told(5), 2000 - 3 - went(c));
            Check.due(who + " water", x.look(6, 0), c[0] + c[1]);
        }
        LockKeepers x = sluiced(100, 0, 1000, 3 + 7);
        Check.due("sluice without fuel", x.told(0), 2);
        logIs("sluice without fuel", x, 1, 1, 5, 30007);
        Check.due("seven units went", x.look(0, 1), 93);
        Check.due("held no more", x.look(3, 1), 0);
        x = with("duty f(n,s){hold 1{sluice 1,s,n;}}duty g(){sluice 1,0,0;}duty h(){hold 1{open 1,0;}}");
        int[][] wrong = {{-1, 0}, {1001, 0}, {0, 2}};
        for (int[] w : wrong) {
            x.run(0, w[0], w[1], 100);
            Check.due("sluice " + w[0] + " " + w[1], x.told(2), 3);
        }
        x.run(1, 0, 0, 100);
        Check.due("sluice not held", x.told(2), 4);
        x.run(2, 0, 0, 100);
        x.run(0, 5, 1, 100);
        Check.due("sluice, the other gate open", x.told(2), 6);
        x.run(0, 1000, 0, 100);
        Check.due("sluice, its own gate open", x.told(0), 0);
    }

    /** By asking anew for each unit, from the numbers alone. */
    private static int went(int[] c) {
        int chamber = c[0];
        int reach = c[1];
        boolean out = chamber > reach / 10;
        int went = 0;
        while (went < c[2] && (out ? chamber > reach / 10 : chamber < reach / 10)) {
            chamber += out ? -1 : 1;
            reach += out ? 1 : -1;
            went++;
        }
        return went;
    }

    private static void runSail() {
        LockKeepers x = with("duty f(s,u){hold 0{hold 5{sail s,u;}}}duty g(s,u){sail s,u;}"
                + "duty h(k,s){hold k{open k,s;}}duty i(k,s){hold k{shut k,s;}}");
        int[][] due = {{-1, 0, 3}, {8, 0, 3}, {0, 2, 3}, {0, -1, 3}, {0, 0, 9}, {0, 1, 4}};
        for (int[] c : due) {
            Check.due("sail " + c[0] + " " + c[1], x.run(1, c[0], c[1], 100), 3);
            Check.due("its kind", x.told(2), c[2]);
        }
        x.berth(7, 12);
        x.run(1, 7, 1, 100);
        Check.due("no place above", x.told(2), 9);
        x.run(0, 7, 0, 100);
        Check.due("the upper gate of lock 5 is shut", x.told(2), 7);
        x.run(2, 5, 1, 100);
        x.run(0, 7, 0, 100);
        logIs("sail 7 down", x, 1, 0, 1, 5, 6, 16 * 7 + 11, 2, 5, 2, 0);
        Check.due("ship 7", x.look(5, 7), 11);
        x.run(0, 7, 0, 100);
        Check.due("the lower gate of lock 5 is shut", x.told(2), 7);
        x.berth(6, 12);
        x.run(0, 6, 0, 100);
        Check.due("a ship in the chamber", x.told(2), 8);
        x.run(0, 7, 1, 100);
        Check.due("out again, where another one lies", x.look(5, 7), 12);
        x.run(2, 0, 0, 100);
        x.run(0, 3, 1, 100);
        logIs("sail 3 up", x, 1, 0, 1, 5, 6, 16 * 3 + 1, 2, 5, 2, 0);
        x.berth(4, 2);
        x.run(1, 4, 0, 100);
        Check.due("not held ahead of shut", x.told(2), 4);
        x.run(1, 4, 1, 100);
        Check.due("lock 1 is not held", x.told(2), 4);
    }

    private static void runQueries() {
        LockKeepers x = with("duty f(k,s){note level(k);note reach(k);note gate(k,s);note ship(k);note held(k);"
                + "hold k{hold k{note held(k);}}}duty g(k,s){hold k{open k,s;}}"
                + "duty l(k){note level(k);}duty r(k){note reach(k);}duty a(k,s){note gate(k,s);}"
                + "duty s(k){note ship(k);}duty h(k){note held(k);}");
        x.chamber(5, 12);
        x.fill(5, 129);
        x.berth(5, 7);
        x.run(1, 5, 0, 100);
        x.run(0, 5, 0, 100);
        logIs("queries", x, 0, 12, 0, 12, 0, 1, 0, 7, 0, 0, 1, 5, 0, 2, 2, 5);
        int[] most = {5, 6, 5, 7, 5};
        for (int i = 0; i < 5; i++) {
            Check.due("query " + i + " most", x.run(2 + i, most[i], 1, 100), 0);
            for (int k = -1; k <= most[i] + 1; k += most[i] + 2) {
                Check.due("query " + i + " of " + k, x.run(2 + i, k, 1, 100), 3);
                Check.due("its kind", x.told(2), 3);
            }
        }
        Check.due("gate of side 2", x.run(4, 0, 2, 100), 3);
        Check.due("gate of side -1", x.run(4, 0, -1, 100), 3);
    }

    private static void runLoops() {
        does("while a{note a;a=a-1;}note 9;", 0, 0, 3, 0, 2, 0, 1, 0, 9);
        does("repeat{note a;a=a-1;}until a<2;", 0, 0, 3, 0, 2);
        does("repeat{note a;}until 1;", 0, 0, 3);
        does("each i from 2 to a{note i;i=9;}note a;", 0, 0, 2, 0, 3, 0, 3);
        does("each i from 4 to a{note i;}", 0);
        does("each i from -1 to -1{note i;}", 0, 0, -1);
        does("var m=999999999+999999999+147483648;each i from m to m+1{note i;}", 0,
                0, Integer.MAX_VALUE - 1, 0, Integer.MAX_VALUE);
        does("each i from a to a+1{a=a+9;note i;}", 0, 0, 3, 0, 4);
        does("while 1{note 1;leave;note 2;}note 3;", 0, 0, 1, 0, 3);
        does("each i from 1 to 3{if i==2{again;}note i;}", 0, 0, 1, 0, 3);
        does("repeat{a=a-1;if a==1{again;}note a;}until a==0;", 0, 0, 2, 0, 0);
        does("repeat{a=a+1;again;}until a==6;note a;", 0, 0, 6);
        does("x:each i from 1 to 3{while 1{if i==2{leave x;}again x;}note 9;}note a;", 0, 0, 3);
        does("x:while a{a=a-1;y:each i from 1 to 2{repeat{note i;again y;}until 1;}leave;}", 0, 0, 1, 0, 2);
        Check.due("answer in a loop", did("while 1{answer 5;}", 0).told(1), 5);
        Check.due("trouble in a loop", did("while 1{fail 50;}", 3).told(2), 50);
    }

    private static void runAlwaysOfLoops() {
        int p = inMain(0);
        does("each i from 1 to 2{note i;}always{note i+10;}", 0, 0, 1, 11, p, 0, 11, 0, 2, 11, p, 0, 12);
        does("x:while a-2{a=a-1;again;}always{note a;}", 0, 11, p, 0, 2);
        does("while 1{leave;}always{note 7;}note 8;", 0, 11, p, 0, 7, 0, 8);
        does("while 0{}always{note 7;}", 0);
        does("while 1{}always{leave;}note 8;", 0, 11, p, 0, 8);
        does("while a{a=a-1;leave;}always{again;}note a;", 0, 11, p, 11, p, 11, p, 0, 0);
        does("while 1{answer 1;}always{leave;}note 8;", 0, 11, p, 0, 8);
        does("while 1{fail 20;}always{leave;}note 8;", 0, 7, 20, 11, p, 9, 20, 0, 8);
        does("repeat{answer 1;}always{again;}until 1;note 8;", 0, 11, p, 0, 8);
        does("while 1/0{}always{note 1;}", 3, 7, 1);
        does("x:while 1{while 1{leave x;}always{note 1;}}always{note 2;}note 3;", 0,
                11, inMain(10), 0, 1, 11, p, 0, 2, 0, 3);
        does("repeat{fail 20;}always{note 1;}until 1;", 3, 7, 20, 11, p, 0, 1);
        LockKeepers x = did("while 1{fail 20;}always{note 1;}", 3);
        Check.due("the place of a trouble that waited", x.told(4), inMain(8));
        x = did("each i from 1 to 3{if i==2{leave;}}always{}", 0);
        Check.due("rounds with an always part", x.told(8), 2);
        Check.due("always parts", x.told(9), 2);
    }

    private static void runChoose() {
        String text = "choose a{when 1,2{note 1;}when b-1{note 2;}when 1/0{note 3;}other{note 4;}}note 9;";
        LockKeepers x = with("duty f(a,b){" + text + "}");
        int[][] due = {{1, 0, 1}, {2, 0, 1}, {3, 4, 2}};
        for (int[] c : due) {
            Check.due("choose", x.run(0, c[0], c[1], 100), 0);
            logIs("choose " + c[0], x, 0, c[2], 0, 9);
        }
        Check.due("choose's list with trouble", x.run(0, 7, 7, 100), 3);
        does("choose a{when 1{}when any{note 1;}when 3{note 2;}}", 0, 0, 1);
        does("choose a{when 1{note 1;}}note 2;", 0, 0, 2);
        does("choose a{when 1{note 1;}other{note 3;}}note 2;", 0, 0, 3, 0, 2);
        does("choose a{other{note 3;}}", 0, 0, 3);
        does("choose a{}note 1;", 0, 0, 1);
        does("while 1{choose a{when 3{leave;}}}note 1;", 0, 0, 1);
        does("if 0{note 1;}else{note 2;}if 7{note 3;}else{note 4;}if 0{note 5;}", 0, 0, 2, 0, 3);
    }

    private static void runHold() {
        does("hold 5{note held(5);}note held(5);", 0, 1, 5, 0, 1, 2, 5, 0, 0);
        LockKeepers x = does("hold 2{hold 2{note held(2);}note held(2);}", 0, 1, 2, 0, 2, 0, 1, 2, 2);
        Check.due("holds taken", x.told(6), 2);
        Check.due("holds let go", x.told(7), 2);
        x = does("hold 6{note 1;}", 3, 7, 3);
        Check.due("holds taken", x.told(6), 0);
        does("hold -1{note 1;}", 3, 7, 3);
        does("while 1{hold 0{leave;}}note 1;", 0, 1, 0, 2, 0, 0, 1);
        does("hold 0{answer 1;}", 0, 1, 0, 2, 0);
        does("hold 0{fail 30;}", 3, 1, 0, 7, 30, 2, 0);
        does("each i from 0 to 1{hold i{again;}}", 0, 1, 0, 2, 0, 1, 1, 2, 1);
    }

    private static void runEnsure() {
        does("ensure a==4{a=a+1;}note a;", 0, 0, 4);
        LockKeepers x = does(" ensure a==3{a=a+1;}note a;", 3, 7, 10);
        Check.due("ensure's place", x.told(4), inMain(1));
        Check.due("ensure's cause", x.told(3), 0);
        Check.due("ensure's kind", x.told(2), 10);
        x = does(" ensure 0{fail 20;}", 3, 7, 20, 7, 10, 9, 20);
        Check.due("ensure's cause with a trouble", x.told(3), 20);
        Check.due("ensure's place with a trouble", x.told(4), inMain(1));
        x = does(" ensure 1/0{fail 20;}", 3, 7, 20, 7, 1, 9, 20);
        Check.due("cause of the trouble of its E", x.told(3), 20);
        Check.due("place of the trouble of its E", x.told(4), inMain(1));
        x = does("ensure 1{fail 20;}", 3, 7, 20);
        Check.due("the trouble stays", x.told(4), inMain(9));
        x = did("ensure 1{answer 5;}", 0);
        Check.due("the answer stays", x.told(1), 5);
        Check.due("fuel: call, ensure, answer, E", x.told(5), PLENTY - 4);
        does("ensure 0{answer 5;}", 3, 7, 10);
        does("while 1{ensure 1{leave;}}note 1;", 0, 0, 1);
        does("while 1{try{ensure 0{again;}}mend 10{leave;}}note 1;", 0, 7, 10, 8, 10, 0, 1);
    }

    private static void runTry() {
        int p = inMain(0);
        does("try{note 1;}mend any{note 2;}always{note 3;}note 4;", 0, 0, 1, 11, p, 0, 3, 0, 4);
        LockKeepers x = does("try{fail 20;}mend 19,20{note 2;}mend any{note 5;}always{note 3;}note 4;", 0,
                7, 20, 8, 20, 0, 2, 11, p, 0, 3, 0, 4);
        Check.due("troubles", x.told(12), 1);
        Check.due("mended", x.told(13), 1);
        Check.due("lost", x.told(14), 0);
        does("try{fail 20;}mend 19{note 2;}always{note 3;}note 4;", 3, 7, 20, 11, p, 0, 3);
        does("try{fail 20;}mend 19{note 2;}note 4;", 3, 7, 20);
        does("try{fail 20;}mend any{fail 21;}mend any{note 2;}", 3, 7, 20, 8, 20, 7, 21);
        does("try{fail 20;}mend any{fail 21;}always{answer 1;}", 0, 7, 20, 8, 20, 7, 21, 11, p, 9, 21);
        does("try{answer 1;}always{fail 20;}", 3, 11, p, 7, 20);
        x = does("try{fail 20;}always{fail 21;}", 3, 7, 20, 11, p, 7, 21, 9, 20);
        Check.due("cause", x.told(3), 20);
        Check.due("place", x.told(4), inMain(20));
        does("while 1{try{fail 20;}always{leave;}}note 1;", 0, 7, 20, 11, inMain(8), 9, 20, 0, 1);
        does("while 1{try{leave;}mend any{}always{note 1;}}note 2;", 0, 11, inMain(8), 0, 1, 0, 2);
        does("try{answer 1;}mend any{note 1;}", 0);
        // not asked for what comes in an always part
        does("try{note 1;}mend any{note 2;}always{fail 20;}", 3, 0, 1, 11, p, 7, 20);
        // kind and cause are those of the call at hand, the latest one that was mended
        x = ran("duty f(){try{fail 20;}mend any{g();note kind;}note kind;}"
                + "duty g(){note kind;try{fail 30;}mend any{note kind;note cause;}}", 0, 0, 0);
        logIs("kinds", x, 7, 20, 8, 20, 0, 0, 7, 30, 8, 30, 0, 30, 0, 20, 0, 20, 0, 20);
        does("try{fail 20;}mend any{try{fail 30;}mend kind+10{note kind;note cause;}}", 0,
                7, 20, 8, 20, 7, 30, 8, 30, 0, 30, 0, 20);
    }

    private static void runMendsAsked() {
        LockKeepers x = does(" try{fail 20;}mend 1/0{note 1;}mend any{note 2;}always{note 3;}", 3,
                7, 20, 7, 1, 9, 20, 11, inMain(1), 0, 3);
        Check.due("cause", x.told(3), 20);
        Check.due("place", x.told(4), inMain(1));
        does("try{fail 20;}mend 20,1/0{note 1;}", 0, 7, 20, 8, 20, 0, 1);
        does("try{fail 20;}mend any{note 1;}mend 1/0{note 2;}", 0, 7, 20, 8, 20, 0, 1);
        x = ran("duty f(){try{fail 20;}mend g(){note 1;}}duty g(){fail 30;}", 0, 0, 3);
        logIs("a mend's call", x, 7, 20, 7, 30, 9, 20);
        Check.due("cause of a mend's call", x.told(3), 20);
        x = ran("duty f(){try{fail 20;}mend g(){note kind;}}"
                + "duty g(){try{fail 30;}mend any{note cause;}answer 20;}", 0, 0, 0);
        logIs("a mend's call that mends", x, 7, 20, 7, 30, 8, 30, 0, 20, 8, 20, 0, 20);
    }

    private static void runLater() {
        LockKeepers x = does("later{note 1;}later{note 2;}note 3;", 0,
                0, 3, 10, inMain(14), 0, 2, 10, inMain(0), 0, 1);
        Check.due("pledged", x.told(10), 2);
        Check.due("begun", x.told(11), 2);
        does("later{note 1;later{note 2;}later{note 3;}}", 0,
                10, inMain(0), 0, 1, 10, inMain(27), 0, 3, 10, inMain(13), 0, 2);
        does("each i from 1 to 2{later{note i;i=7;}}", 0, 10, inMain(19), 0, 2, 10, inMain(19), 0, 7);
        x = does("later{answer 5;}fail 20;", 0, 7, 20, 10, inMain(0), 9, 20);
        Check.due("its answer", x.told(1), 5);
        x = does("later{note 1;}later{fail 30;}later{fail 40;}answer 5;", 3,
                10, inMain(29), 7, 40, 10, inMain(14), 7, 30, 9, 40, 10, inMain(0), 0, 1);
        Check.due("its cause", x.told(3), 40);
        Check.due("kept answer", did("later{}answer 5;", 0).told(1), 5);
        Check.due("END by laters", did("later{}", 0).told(18), END);
        Check.due("answer of a later", did("later{answer 4;}", 0).told(18), ANSWER);
        x = ran("duty f(){note g();}duty g(){later{answer 4;}later{note 1;}answer 3;}", 0, 0, 0);
        logIs("a call's laters", x, 10, 44, 0, 1, 10, 28, 0, 4);
        x = ran("duty f(){try{g();}mend any{note kind;}}duty g(){later{note 1;}fail 20;}", 0, 0, 0);
        logIs("laters ahead of the mend", x, 7, 20, 10, 48, 0, 1, 8, 20, 0, 20);
    }

    private static void runCauses() {
        Check.due("none", did("fail 20;", 3).told(3), 0);
        Check.due("mend", did("try{fail 20;}mend any{fail 30;}", 3).told(3), 20);
        Check.due("behind a mend", did("try{fail 20;}mend any{}fail 30;", 3).told(3), 0);
        Check.due("always behind a mend", did("try{fail 20;}mend any{}always{fail 30;}", 3).told(3), 0);
        Check.due("always behind a mend that fails",
                did("try{fail 20;}mend any{fail 25;}always{fail 30;}", 3).told(3), 25);
        Check.due("always without trouble", did("try{}always{fail 30;}", 3).told(3), 0);
        Check.due("always without trouble in a mend",
                did("try{fail 20;}mend any{try{}always{fail 30;}}", 3).told(3), 20);
        Check.due("always with trouble in a mend",
                did("try{fail 20;}mend any{try{fail 25;}always{fail 30;}}", 3).told(3), 25);
        Check.due("a round's always", did("while 1{fail 20;}always{fail 30;}", 3).told(3), 20);
        Check.due("behind an always part", did("while 1{fail 20;}always{leave;}fail 30;", 3).told(3), 0);
        Check.due("in a mend, behind an always part",
                did("try{fail 20;}mend any{try{}always{}fail 30;}", 3).told(3), 20);
        Check.due("in a mend, behind a call",
                ran("duty f(){try{fail 20;}mend any{g();fail 30;}}duty g(){later{}}", 0, 0, 3).told(3), 20);
        LockKeepers x = did("try{fail 20;}always{try{ fail 30;}mend any{}}", 3);
        Check.due("kind of one that waited", x.told(2), 20);
        Check.due("cause of one that waited", x.told(3), 0);
        Check.due("place of one that waited", x.told(4), inMain(4));
        Check.due("behind an ensure", did("while 1{try{ensure 1{fail 20;}}always{leave;}}fail 30;", 3).told(3), 0);
        Check.due("a later with trouble", did("later{fail 30;}fail 20;", 3).told(3), 20);
        Check.due("a later without", did("later{fail 30;}", 3).told(3), 0);
        Check.due("a later that was pledged in a mend",
                did("try{fail 20;}mend any{later{fail 30;}}", 3).told(3), 0);
        Check.due("a call from there",
                ran("duty f(){try{fail 20;}mend any{g();}}duty g(){later{fail 40;}}", 0, 0, 3).told(3), 20);
        Check.due("a hold in a mend", did("try{fail 20;}mend any{hold 0{open 9,9;}}", 3).told(3), 20);
        Check.due("a mended one's cause stays what it was when it came",
                did("try{try{fail 20;}always{fail 30;}}mend any{note cause;}", 0).log(5, 1), 20);
    }

    private static void runDeep() {
        LockKeepers x = ran("duty f(a){note a; f(a+1);}", 1, 0, 3);
        Check.due("deep kind", x.told(2), 2);
        Check.due("deep place", x.told(4), 18);
        Check.due("calls", x.told(15), 12);
        Check.due("log", x.told(16), 13);
        Check.due("fuel: 13 calls, 24 statements", x.told(5), PLENTY - 13 - 24);
        x = ran("duty f(a){if a{f(a-1);}}", 11, 0, 0);
        Check.due("twelve are fine", x.told(15), 12);
        x = did("each i from 1 to 40{later{}}note 1;", 0);
        Check.due("forty laters", x.told(10), 40);
        x = did("each i from 1 to 41{ later{}}note 1;", 3);
        Check.due("a 41st later", x.told(2), 2);
        Check.due("its place", x.told(4), inMain(21));
        Check.due("pledged", x.told(10), 40);
        Check.due("begun", x.told(11), 40);
        x = did("each i from 1 to 40{later{later{}}}", 0);
        Check.due("one that is begun waits no more", x.told(10), 80);
        x = ran("duty f(){each i from 1 to 40{later{}}g();}duty g(){each i from 1 to 40{later{}}}", 0, 0, 0);
        Check.due("each call by itself", x.told(10), 80);
    }

    private static void fuelIs(String body, int used) {
        LockKeepers x = did(body, 0);
        Check.due("fuel left of " + body, x.told(5), PLENTY - used);
        Check.due("fuel used by " + body, x.told(17), used);
        LockKeepers y = with("duty main(a,b){" + body + "}");
        Check.due("just enough for " + body, y.run(0, 3, 4, used), 0);
        if (used > 0) {
            Check.due("one too little for " + body, y.run(0, 3, 4, used - 1), 2);
            Check.due("none left", y.told(5), 0);
            Check.due("all used", y.told(17), 2 * used - 1);
        }
    }

    private static void runFuel() {
        fuelIs("", 1);
        fuelIs("{{}{}}", 1);
        fuelIs("note 1;", 2);
        fuelIs("if 1{}", 2);
        fuelIs("while 0{}", 3);
        fuelIs("while a{a=a-1;}", 1 + 1 + 4 + 3);
        fuelIs("each i from 1 to 3{}", 1 + 1 + 3);
        fuelIs("each i from 1 to 0{}", 1 + 1);
        fuelIs("repeat{a=a-1;}until a==0;", 1 + 1 + 3 + 3);
        fuelIs("while 1{leave;}", 1 + 1 + 1 + 1);
        fuelIs("ensure 1{}", 1 + 1 + 1);
        fuelIs("try{}always{}", 2);
        fuelIs("try{fail 10;}mend any{note 1;}always{note 1;}", 1 + 1 + 1 + 1 + 1);
        fuelIs("later{note 1;}", 1 + 1 + 1);
        fuelIs("hold 0{}", 2);
        fuelIs("choose 1{when 1{}}", 2);
        fuelIs("if a{main(0,0);}", 1 + 1 + 1 + 1 + 1);
        fuelIs("if a{note main(0,0)+main(0,0);}", 1 + 1 + 1 + 2 * 2);
        LockKeepers x = with("duty f(){}");
        Check.due("no fuel at all", x.run(0, 0, 0, 0), 2);
        Check.due("no call", x.told(15), 0);
        Check.due("no way", x.told(18), 0);
        Check.due("no log", x.told(16), 0);
    }

    /** Nothing of what waits in a round, or in a run that is OVER, is left for the next one. */
    private static void runLongAndAgain() {
        LockKeepers x = with("duty f(n){each i from 1 to n{g(1);}answer 1+2*(3+n);}"
                + "duty h(n){each i from 1 to n{try{note 1+(2+(3+i/0));}mend 1{}}answer 1+2*(3+n);}"
                + "duty i(n){each i from 1 to n{choose i{when any{}}each j from 1 to 1{}}answer 1+2*(3+n);}"
                + "duty g(a){choose a{when 1{}}choose a{}}");
        for (int d = 0; d < 3; d++) {
            Check.due("a long run", x.run(d, 2500, 0, 20000), 0);
            Check.due("its answer", x.told(1), 5007);
            Check.due("its calls and troubles", x.told(15) + x.told(12), d < 2 ? 2501 : 1);
        }
        x = with("duty f(){later{note 1;}hold 0{try{fail 20;}mend any{g(5);}}}"
                + "duty g(a){var b=7;later{note 2;}try{fail 20;}mend any{try{fail 21;}mend any{stop;}}}"
                + "duty h(){note kind;note cause;fail 30;}duty i(){h();}duty j(a){if a{j(a-1);}else{stop;}}"
                + "duty k(){note kind;note cause;}duty l(){k();}");
        for (int i = 0; i < 12; i++) {
            Check.due("stopped", x.run(0, 0, 0, 100), 1);
            Check.due("deep", x.run(4, 11, 0, 100), 1);
            Check.due("then a duty of its own", x.run(2 + i % 2, 0, 0, 100), 3);
            logIs("then", x, 0, 0, 0, 0, 7, 30);
            Check.due("its cause", x.told(3), 0);
            Check.due("stopped again", x.run(0, 0, 0, 100), 1);
            Check.due("then one that ends", x.run(5 + i % 2, 0, 0, 100), 0);
            logIs("then", x, 0, 0, 0, 0);
            Check.due("its calls", x.told(15), 1 + i % 2);
            Check.due("its way", x.told(18), END);
            Check.due("its fuel", x.told(5), 100 - 3 - 2 * (i % 2));
            Check.due("holds let go", x.told(7), 0);
        }
    }

    private static void runOver() {
        LockKeepers x = does("later{note 1;}hold 1{try{ensure 0{stop;}}mend any{note 2;}always{note 3;}}note 4;", 1,
                1, 1);
        Check.due("OVER: held no more", x.look(3, 1), 0);
        Check.due("OVER: way", x.told(18), 0);
        Check.due("OVER: kind", x.told(2), 0);
        Check.due("OVER: place", x.told(4), -1);
        Check.due("OVER: answer", x.told(1), 0);
        Check.due("OVER: holds taken", x.told(6), 1);
        x = with("duty f(){hold 0{open 0,0;while 1{}}}duty g(){shut 0,0;}duty h(){note gate(0,0);}");
        Check.due("out of fuel", x.run(0, 0, 0, 50), 2);
        logIs("out of fuel", x, 1, 0, 3, 0);
        Check.due("the gate stays open", x.look(1, 0), 1);
        Check.due("not held", x.run(1, 0, 0, 50), 3);
        Check.due("its kind", x.told(2), 4);
        x.run(2, 0, 0, 50);
        logIs("the canal stays from run to run", x, 0, 1);
        x = ran("duty f(){try{note g();}always{note 1;}}duty g(){try{fail 20;}always{stop;}}", 0, 0, 1);
        logIs("stop with a trouble on its way", x, 7, 20, 11, 48);
        Check.due("not lost", x.told(14), 0);
    }

    // ---- promises 11 to 13

    private static void told() {
        LockKeepers x = did("", 0);
        toldOfOneRound();
        toldOfTrouble();
        Check.due("told -1", x.told(-1), -1);
        Check.due("told 19", x.told(19), -1);
        Check.due("told most", x.told(Integer.MAX_VALUE), -1);
        Check.due("told least", x.told(Integer.MIN_VALUE), -1);
    }

    private static void toldOfOneRound() {
        LockKeepers x = with("duty f(a,b){later{note 1;}while b{hold 1{try{fail a;}mend 20{b=b-1;}always{}}}"
                + "always{}answer a*7;}");
        x.run(0, 20, 1, 100);
        // call, later, while, asking, hold, try, fail, =, asking, answer, note
        int[] due = {0, 140, 0, 0, -1, 100 - 11, 1, 1, 2, 2, 1, 1, 1, 1, 0, 1, 8, 11, ANSWER};
        for (int what = 0; what < 19; what++) {
            Check.due("told " + what, x.told(what), due[what]);
        }
        x.run(0, 20, 2, 100);
        due = new int[] {0, 140, 0, 0, -1, 100 - 16, 2, 2, 4, 4, 1, 1, 2, 2, 0, 1, 14, 27, ANSWER};
        for (int what = 0; what < 19; what++) {
            Check.due("told of the second run " + what, x.told(what), due[what]);
        }
    }

    private static void toldOfTrouble() {
        LockKeepers x = with("duty f(a){try{fail a;}always{ fail 30;}}");
        x.run(0, 20, 0, 100);
        int[] due = {3, 0, 30, 20, 30, 96, 0, 0, 1, 1, 0, 0, 2, 0, 1, 1, 4, 4, TROUBLE};
        for (int what = 0; what < 19; what++) {
            Check.due("told of a trouble " + what, x.told(what), due[what]);
        }
        Check.read(x, "duty");
        Check.due("a read leaves it", x.told(2), 30);
    }

    private static void log() {
        LockKeepers x = with("duty f(n){each i from 1 to n{note i;}}");
        x.run(0, 300, 0, 20000);
        Check.due("entry 299", x.log(299, 1), 300);
        x.run(0, 301, 0, 20000);
        Check.due("all entries", x.told(16), 301);
        Check.due("entry 299", x.log(299, 0), 0);
        Check.due("entry 299", x.log(299, 1), 300);
        Check.due("entry 300 is not kept", x.log(300, 0), -1);
        Check.due("entry 300 is not kept", x.log(300, 1), -1);
        x.run(0, 2, 0, 20000);
        Check.due("a new log", x.told(16), 2);
        Check.due("entry 1", x.log(1, 1), 2);
        Check.due("entry 2", x.log(2, 1), -1);
        Check.due("entry -1", x.log(-1, 0), -1);
        Check.due("entry most", x.log(Integer.MAX_VALUE, 0), -1);
        Check.due("another what", x.log(0, 2), -1);
        Check.due("another what", x.log(0, -1), -1);
    }

    private static void look() {
        LockKeepers x = with("duty f(k,s){hold k{open k,s;}}");
        x.fill(0, 5);
        x.fill(6, 70);
        x.chamber(0, 1);
        x.chamber(5, 8);
        x.berth(7, 3);
        x.run(0, 0, 0, 100);
        x.run(0, 5, 1, 100);
        Check.due("chamber 0", x.look(0, 0), 1);
        Check.due("chamber 5", x.look(0, 5), 8);
        Check.due("lower gate 0", x.look(1, 0), 1);
        Check.due("upper gate 0", x.look(2, 0), 0);
        Check.due("lower gate 5", x.look(1, 5), 0);
        Check.due("upper gate 5", x.look(2, 5), 1);
        Check.due("holds", x.look(3, 0), 0);
        Check.due("reach 0", x.look(4, 0), 5);
        Check.due("reach 6", x.look(4, 6), 70);
        Check.due("ship 7", x.look(5, 7), 3);
        Check.due("water", x.look(6, 0), 84);
        int[] most = {5, 5, 5, 5, 6, 7};
        for (int what = 0; what < 6; what++) {
            Check.due("look " + what + " below", x.look(what, -1), -1);
            Check.due("look " + what + " above", x.look(what, most[what] + 1), -1);
        }
        Check.due("look 7", x.look(7, 0), -1);
        Check.due("look -1", x.look(-1, 0), -1);
    }
}
