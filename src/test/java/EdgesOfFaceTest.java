/** The boundary cases that the promises themselves name: of their arguments, and of calls that are refused. */
public final class EdgesOfFaceTest extends Bench {
    private static final int[] FAR = {LEAST, LEAST + 1, -1000, 1000, MOST - 1, MOST};
    private static final String[] FAULTY = {">", "x", "duty f(){" + "{".repeat(14), "duty f(a,a){}", "duty f(){g();}",
        "duty f(){leave;}", "duty f(){f(1);}", "duty f(a,b,c,d,e,g,h,i,j){}"};
    private static final int[] ALL_TOLD = {0, 1, 2, 3, 4, 5, 6, 7, 8, 9, 10, 11, 12, 13, 14, 15, 16, 17, 18};

    private EdgesOfFaceTest() {
    }

    public static void main(String[] args) throws Exception {
        Edges.run(EdgesOfFaceTest.class);
    }

    // ---- helpers

    private static boolean feed(LockKeepers x, String twenty) {
        int[] f = Check.twenty(twenty, 0);
        return x.feed(f[0], f[1], f[2], f[3], f[4]);
    }

    private static LockKeepers fed(int times) {
        LockKeepers x = new LockKeepers();
        for (int i = 0; i < times; i++) {
            Check.due("feed " + i, feed(x, ""), true);
        }
        return x;
    }

    private static void tapeHas(LockKeepers x, int bytes) {
        Check.due("the tape has no more than " + bytes, x.end(bytes + 1), false);
        Check.due("the tape has " + bytes, x.end(bytes), true);
    }

    private static int[] allTold(LockKeepers x) {
        int[] answers = new int[ALL_TOLD.length];
        for (int what : ALL_TOLD) {
            answers[what] = x.told(what);
        }
        return answers;
    }

    private static void toldIs(LockKeepers x, int... due) {
        for (int what : ALL_TOLD) {
            Check.due("told(" + what + ")", x.told(what), due[what]);
        }
    }

    private static void isUnused(LockKeepers x) {
        for (int k = 0; k < 8; k++) {
            for (int what = 0; what < 7; what++) {
                boolean is = what < 4 && k < 6 || what == 4 && k < 7 || what == 5 || what == 6;
                Check.due("look(" + what + ", " + k + ")", x.look(what, k), is ? 0 : NONE);
            }
        }
    }

    /** A gate is opened and shut by duties 0 and 1, whatever the levels are; both are 0 at first. */
    private static LockKeepers withGates() {
        return with("duty op(k,s){hold k{open k,s;}}duty sh(k,s){hold k{shut k,s;}}");
    }

    // ---- promise 1

    @Holds(promise = 1, says = "The TAPE is empty")
    static void newTapeIsEmpty() {
        LockKeepers x = new LockKeepers();
        Check.due("end(1)", x.end(1), false);
        Check.due("end(0)", x.end(0), true);
        Check.due("read of nothing", x.read(), 2);
        Check.due("its place", x.fault(1), 0);
    }

    @Holds(promise = 1, says = "there is no book")
    static void newHasNoBook() {
        LockKeepers x = new LockKeepers();
        for (int d = -1; d < 2; d++) {
            for (int what = 0; what < 4; what++) {
                Check.due("duty(" + d + ", " + what + ")", x.duty(d, what), NONE);
            }
        }
        Check.due("a run", thrown(x, 0, 10), STATE);
    }

    @Holds(promise = 1, says = "the canal is as at first")
    static void newCanalIsAsAtFirst() {
        isUnused(new LockKeepers());
    }

    @Holds(promise = 1, term = 5, says = "All memory is the class's own.")
    static void objectsShareNothing() {
        LockKeepers x = new LockKeepers();
        LockKeepers y = new LockKeepers();
        Check.due("a book for x", Check.read(x, "duty f(){hold 0{open 0,0;note 1;fail 20;}}"), 0);
        Check.due("fill", x.fill(0, 5), true);
        Check.due("chamber", x.chamber(1, 7), true);
        Check.due("berth", x.berth(0, 1), true);
        Check.due("run", x.run(0, 0, 0, 100), TROUBLED);
        Check.due("feed x", feed(x, "!"), true);
        isUnused(y);
        Check.due("y's tape", y.end(1), false);
        Check.due("y's book", y.duty(-1, 0), NONE);
        Check.due("y's fault", y.fault(1), NONE);
        Check.due("y's run", y.told(0), NONE);
        Check.due("y's log", y.log(0, 0), NONE);
        Check.due("y's fuel", y.told(17), 0);
    }

    // ---- promise 2

    @Holds(promise = 2, says = "Twenty bytes, the highest of each int first, come behind the TAPE")
    static void eachByteComesWhereItIsDue() {
        String twenty = "duty abc(){note 12;}";
        LockKeepers x = new LockKeepers();
        Check.due("feed", x.feed(0x64757479, 0x20616263, 0x28297b6e, 0x6f746520, 0x31323b7d), true);
        Check.due("read " + twenty, x.read(), 0);
        Check.due("run", x.run(0, 0, 0, 10), ENDED);
        logIs(twenty, x, 0, 12);
        for (int at = 0; at < 20; at++) {
            LockKeepers y = new LockKeepers();
            String text = at < 10 ? "          duty f(){}" : "duty f(){}";
            StringBuilder spoiled = new StringBuilder(String.format("%-20s", text));
            spoiled.setCharAt(at, '!');
            Check.due("feed", feed(y, spoiled.toString()), true);
            Check.due("read " + spoiled, y.read(), 1);
            Check.due("place of the " + at + "th byte", y.fault(1), at);
        }
    }

    @Holds(promise = 2, says = "come behind the TAPE")
    static void bytesComeBehindTheLastOne() {
        LockKeepers x = new LockKeepers();
        Check.due("first", feed(x, "duty f(){answer 7 !!"), true);
        Check.due("end(17)", x.end(17), true);
        Check.due("second", feed(x, "5;}"), true);
        Check.due("read", x.read(), 0);
        Check.due("run", x.run(0, 0, 0, 10), ENDED);
        Check.due("one number of both", x.told(1), 75);
    }

    @Holds(promise = 2, says = "(others than 10, 32 .. 126 come as 32)")
    static void otherBytesComeAsBlanks() {
        for (int sign = 0; sign < 256; sign++) {
            boolean blank = sign <= 32 || sign >= 127;
            LockKeepers x = new LockKeepers();
            int read = Check.read(x, "duty" + (char) sign + "f(){}");
            Check.due("byte " + sign + " between words", read == 0, blank);
            int ended = Check.read(x, "#" + (char) sign + "duty f(){}");
            Check.due("byte " + sign + " in a comment", ended, sign == 10 ? 0 : 2);
        }
    }

    @Holds(promise = 2, says = "(others than 10, 32 .. 126 come as 32)")
    static void otherBytesComeAsBlanksAtEachPlace() {
        int[] others = {0, 9, 11, 13, 31, 127, 128, 160, 255};
        for (int at = 0; at < 20; at++) {
            for (int other : others) {
                StringBuilder text = new StringBuilder(at < 10 ? "          duty f(){}" : "duty f(){}          ");
                text.setCharAt(at, (char) other);
                LockKeepers x = new LockKeepers();
                Check.due("feed", feed(x, text.toString()), true);
                Check.due("byte " + other + " at " + at, x.read(), 0);
            }
        }
    }

    @Holds(promise = 2, says = "false, and nothing happens, if it would have more than 3000")
    static void feedUpTo3000() {
        LockKeepers x = fed(150);
        tapeHas(x, 3000);
        Check.due("feed from 3000", feed(x, ""), false);
        tapeHas(x, 3000);
    }

    @Holds(promise = 2, says = "false, and nothing happens, if it would have more than 3000")
    static void feedFrom2980And2981() {
        LockKeepers x = fed(150);
        Check.due("end(2981)", x.end(2981), true);
        Check.due("feed from 2981", feed(x, "!"), false);
        tapeHas(x, 2981);
        Check.due("end(2980)", x.end(2980), true);
        Check.due("feed from 2980", feed(x, ""), true);
        tapeHas(x, 3000);
    }

    @Holds(promise = 2, says = "nothing happens")
    static void refusedFeedLeavesTheBytes() {
        LockKeepers x = new LockKeepers();
        Check.due("the text", feed(x, "duty f(){answer 5;}"), true);
        for (int i = 1; i < 150; i++) {
            Check.due("blanks", feed(x, ""), true);
        }
        Check.due("end(2990)", x.end(2990), true);
        Check.due("a feed too many", feed(x, "!!!!!!!!!!!!!!!!!!!!"), false);
        Check.due("read", x.read(), 0);
        Check.due("run", x.run(0, 0, 0, 10), ENDED);
        Check.due("its answer", x.told(1), 5);
    }

    @Holds(promise = 2, says = "true; false, and nothing happens, if it would have more than 3000")
    static void feedAfterTheTapeWasEmptied() {
        LockKeepers x = fed(150);
        Check.due("read", x.read(), 2);
        Check.due("feed then", feed(x, ""), true);
        tapeHas(x, 20);
    }

    // ---- promise 3

    @Holds(promise = 3, says = "The TAPE has its first n bytes: true")
    static void endKeepsTheFirstBytes() {
        LockKeepers x = new LockKeepers();
        Check.due("feed", feed(x, "duty f(){}!!!!!!!!!!"), true);
        Check.due("all of them", x.end(20), true);
        tapeHas(x, 20);
        Check.due("end(10)", x.end(10), true);
        tapeHas(x, 10);
        Check.due("read", x.read(), 0);
        Check.due("feed", feed(x, "duty f(){}"), true);
        Check.due("end(9)", x.end(9), true);
        Check.due("read", x.read(), 2);
        Check.due("place", x.fault(1), 9);
    }

    @Holds(promise = 3, says = "The TAPE has its first n bytes: true")
    static void endWithNoByte() {
        LockKeepers x = new LockKeepers();
        Check.due("end(0) of an empty tape", x.end(0), true);
        Check.due("feed", feed(x, "duty f(){}"), true);
        Check.due("end(0)", x.end(0), true);
        tapeHas(x, 0);
        Check.due("what is cut does not come again", x.end(10), false);
    }

    @Holds(promise = 3, says = "The TAPE has its first n bytes: true")
    static void endWithinAToken() {
        // what is cut off is no part of the last token, and the end is where the tape ends
        String[] texts = {"duty f(){a=1<|=", "duty f(){a=1=|=", "duty f(){a=1!|=", "duty f(){a=1<|=2;}", "duty f(){note 1|2;}",
            "duty f(){note kin|d;}", "duty f(){note(1|);}", "duty f(){}|!", "duty f(){}#|\n!", "dut|y f(){}", "duty f(){}d|uty"};
        int[] kinds = {2, 2, 1, 2, 2, 2, 2, 0, 0, 2, 2};
        int[] places = {13, 12, 12, 13, 15, 17, 15, NONE, NONE, 0, 10};
        for (int i = 0; i < texts.length; i++) {
            LockKeepers x = new LockKeepers();
            String whole = texts[i].replace("|", "");
            Check.due("feed " + whole, feed(x, whole), true);
            Check.due("end", x.end(texts[i].indexOf('|')), true);
            Check.due("read " + texts[i], x.read(), kinds[i]);
            Check.due("place in " + texts[i], x.fault(1), places[i]);
        }
    }

    @Holds(promise = 3, says = "false, and nothing happens, if it has not so many")
    static void endBeyondTheTape() {
        LockKeepers x = new LockKeepers();
        Check.due("end(1) of an empty tape", x.end(1), false);
        Check.due("feed", feed(x, "duty f(){}"), true);
        Check.due("end(21)", x.end(21), false);
        Check.due("end(3000)", x.end(3000), false);
        Check.due("end(most)", x.end(MOST), false);
        tapeHas(x, 20);
    }

    @Holds(promise = 3, says = "or n is below 0")
    static void endBelow0() {
        LockKeepers x = new LockKeepers();
        Check.due("end(-1) of an empty tape", x.end(-1), false);
        Check.due("feed", feed(x, "duty f(){}"), true);
        Check.due("end(-1)", x.end(-1), false);
        Check.due("end(least)", x.end(LEAST), false);
        tapeHas(x, 20);
        Check.due("read", x.read(), 0);
    }

    // ---- promise 4

    @Holds(promise = 4, says = "The TAPE, which is empty then, is read")
    static void tapeIsEmptyBehindARead() {
        LockKeepers x = with("duty f(){}");
        Check.due("behind a good text", x.end(1), false);
        Check.due("a read of nothing", x.read(), 2);
        Check.due("its place", x.fault(1), 0);
        Check.due("the book stays", x.duty(-1, 0), 1);
        for (String text : FAULTY) {
            Check.due(text, Check.read(x, text) != 0, true);
            Check.due("behind " + text, x.end(1), false);
        }
    }

    @Holds(promise = 4, says = "else its FAULT (the book that there was stays)")
    static void bookStaysBehindEachFault() {
        LockKeepers x = with("duty f(){answer 5;}duty g(a){}");
        for (int i = 0; i < FAULTY.length; i++) {
            Check.due(FAULTY[i], Check.read(x, FAULTY[i]), i + 1);
            Check.due("duties behind " + FAULTY[i], x.duty(-1, 0), 2);
            Check.due("a parameter behind " + FAULTY[i], x.duty(1, 0), 1);
            Check.due("its run", x.run(0, 0, 0, 10), ENDED);
            Check.due("its answer", x.told(1), 5);
        }
    }

    @Holds(promise = 4, says = "else its FAULT")
    static void faultWithoutABookLeavesNone() {
        LockKeepers x = new LockKeepers();
        for (int i = 0; i < FAULTY.length; i++) {
            Check.due(FAULTY[i], Check.read(x, FAULTY[i]), i + 1);
            Check.due("no book", x.duty(-1, 0), NONE);
            Check.due("no run", thrown(x, 0, 10), STATE);
        }
    }

    @Holds(promise = 4, says = "0, and it is the book")
    static void newBookTakesTheOldOnesPlace() {
        LockKeepers x = with("duty f(a,b){var c=1;answer 1;}duty g(){}duty h(){}");
        Check.due("a smaller one", Check.read(x, " duty f(){answer 2;}"), 0);
        Check.due("one duty", x.duty(-1, 0), 1);
        Check.due("no second one", x.duty(1, 0), NONE);
        Check.due("parameters", x.duty(0, 0), 0);
        Check.due("variables", x.duty(0, 1), 0);
        Check.due("place", x.duty(0, 2), 6);
        Check.due("run", x.run(0, 0, 0, 10), ENDED);
        Check.due("answer", x.told(1), 2);
        Check.due("no such duty", thrown(x, 1, 10), ARGUMENT);
    }

    @Holds(promise = 4, says = "0, and it is the book")
    static void smallestAndLongestText() {
        fine("duty f(){}");
        String longest = "duty f(){answer 5;}" + " ".repeat(3000 - 20) + "#";
        LockKeepers x = with(longest);
        Check.due("run", x.run(0, 0, 0, 10), ENDED);
        Check.due("answer", x.told(1), 5);
        StringBuilder full = new StringBuilder("duty f(){note 0");
        while (full.length() < 2998) {
            full.append(full.length() < 2996 ? "+1" : " ");
        }
        LockKeepers y = with(full.append(";}").toString());
        Check.due("run of the longest E", y.run(0, 0, 0, 10), ENDED);
        Check.due("its number", y.log(0, 1), (2996 - 15 + 1) / 2);
    }

    @Holds(promise = 4, says = "the book that there was stays")
    static void readLeavesCanalAndReport() {
        LockKeepers x = with("duty f(){hold 2{open 2,1;}note 5;}");
        Check.due("fill", x.fill(0, 9), true);
        Check.due("run", x.run(0, 0, 0, 10), ENDED);
        int[] told = allTold(x);
        Check.due("a faulty text", Check.read(x, "duty"), 2);
        Check.due("a good text", Check.read(x, "duty g(){}"), 0);
        toldIs(x, told);
        Check.due("log", x.log(3, 1), 5);
        Check.due("gate", x.look(2, 2), 1);
        Check.due("reach", x.look(4, 0), 9);
    }

    // ---- promise 5

    @Holds(promise = 5, says = "0 its FAULT (0), 1 its place (NONE)")
    static void faultWithoutARead() {
        LockKeepers x = new LockKeepers();
        Check.due("fault(0)", x.fault(0), 0);
        Check.due("fault(1)", x.fault(1), NONE);
    }

    @Holds(promise = 5, says = "0 its FAULT (0), 1 its place (NONE)")
    static void faultBehindAGoodRead() {
        LockKeepers x = new LockKeepers();
        Check.due("a faulty one", Check.read(x, "duty f(){>"), 1);
        Check.due("fault(0)", x.fault(0), 1);
        Check.due("fault(1)", x.fault(1), 9);
        Check.due("a good one", Check.read(x, "duty f(){}"), 0);
        Check.due("fault(0)", x.fault(0), 0);
        Check.due("fault(1)", x.fault(1), NONE);
    }

    @Holds(promise = 5, says = "Of the latest read()")
    static void faultIsThatOfTheLatestRead() {
        LockKeepers x = new LockKeepers();
        int[] places = {0, 0, 22, 9, 9, 9, 9, 23};
        for (int i = 0; i < FAULTY.length; i++) {
            Check.due(FAULTY[i], Check.read(x, FAULTY[i]), i + 1);
            Check.due("fault(0)", x.fault(0), i + 1);
            Check.due("fault(1)", x.fault(1), places[i]);
        }
        Check.due("feed", feed(x, "duty f(){}"), true);
        Check.due("a feed and an end are no read", x.end(10), true);
        Check.due("fault(0)", x.fault(0), 8);
        Check.due("fault(1)", x.fault(1), 23);
    }

    @Holds(promise = 5, says = "NONE for another what.")
    static void faultOfAnotherWhat() {
        LockKeepers x = new LockKeepers();
        Check.due("a faulty one", Check.read(x, "duty f(){>"), 1);
        Check.due("fault(-1)", x.fault(-1), NONE);
        Check.due("fault(2)", x.fault(2), NONE);
        for (int what : FAR) {
            Check.due("fault(" + what + ")", x.fault(what), NONE);
        }
    }

    // ---- promise 6, but for the WAYS

    @Holds(promise = 6, says = "0 its parameters, 1 its variables (parameters are some)")
    static void dutyWithNoneAndWithAll() {
        LockKeepers x = with("duty f(){}duty g(a,b,c,d,e,h,i,j){" + times("{var v=1;}", 15)
                + "each k from 1 to 2{}}duty h(a){}duty i(){var a=1;}");
        int[][] due = {{0, 0}, {8, 24}, {1, 1}, {0, 1}};
        for (int d = 0; d < due.length; d++) {
            Check.due("parameters of " + d, x.duty(d, 0), due[d][0]);
            Check.due("variables of " + d, x.duty(d, 1), due[d][1]);
        }
    }

    @Holds(promise = 6, says = "2 the place of its NAME")
    static void placesOfNames() {
        LockKeepers x = with("duty f(){}duty#duty\n  \n g(){}\nduty h(){}");
        Check.due("f", x.duty(0, 2), 5);
        Check.due("g", x.duty(1, 2), 24);
        Check.due("h", x.duty(2, 2), 35);
    }

    @Holds(promise = 6, says = "of NONE: 0 how many DUTIES there are")
    static void howManyDuties() {
        Check.due("one", with("duty f(){}").duty(NONE, 0), 1);
        Check.due("thirty", with(times("duty f#(){}", 30)).duty(NONE, 0), 30);
        LockKeepers x = with("duty f(){}");
        Check.due("NONE, 1", x.duty(NONE, 1), NONE);
        Check.due("NONE, 2", x.duty(NONE, 2), NONE);
        Check.due("NONE, 3", x.duty(NONE, 3), NONE);
        Check.due("NONE, -1", x.duty(NONE, -1), NONE);
        Check.due("NONE, 4", x.duty(NONE, 4), NONE);
        for (int what : FAR) {
            Check.due("NONE, " + what, x.duty(NONE, what), NONE);
        }
    }

    @Holds(promise = 6, says = "NONE if there is none such, or no book.")
    static void dutyThatThereIsNot() {
        LockKeepers x = with(times("duty f#(){}", 30));
        for (int what = 0; what < 4; what++) {
            Check.due("the last one, " + what, x.duty(29, what) >= 0, true);
            Check.due("one behind it, " + what, x.duty(30, what), NONE);
            Check.due("-2, " + what, x.duty(-2, what), NONE);
            for (int d : FAR) {
                Check.due(d + ", " + what, x.duty(d, what), NONE);
            }
        }
        Check.due("what -1", x.duty(0, -1), NONE);
        Check.due("what 4", x.duty(0, 4), NONE);
        Check.due("what 5", x.duty(0, 5), NONE);
        for (int what : FAR) {
            Check.due("what " + what, x.duty(0, what), NONE);
        }
    }

    // ---- promise 7

    @Holds(promise = 7, says = "Reach r has so many units: true")
    static void fillEachReach() {
        LockKeepers x = new LockKeepers();
        for (int r = 0; r < 7; r++) {
            Check.due("fill " + r, x.fill(r, 1000 + r), true);
        }
        for (int r = 0; r < 7; r++) {
            Check.due("reach " + r, x.look(4, r), 1000 + r);
            Check.due("a chamber has none of it", x.look(0, r % 6), 0);
        }
        Check.due("again", x.fill(3, 0), true);
        Check.due("so many, not so many more", x.look(4, 3), 0);
    }

    @Holds(promise = 7, says = "false if there is none such")
    static void fillAReachThatThereIsNot() {
        LockKeepers x = new LockKeepers();
        Check.due("fill(-1)", x.fill(-1, 5), false);
        Check.due("fill(7)", x.fill(7, 5), false);
        for (int r : FAR) {
            Check.due("fill(" + r + ")", x.fill(r, 5), false);
        }
        isUnused(x);
    }

    @Holds(promise = 7, says = "or they are not 0 .. 100000")
    static void fillWithTooLittleOrTooMuch() {
        LockKeepers x = new LockKeepers();
        Check.due("100000", x.fill(6, 100000), true);
        int[] wrong = {-1, 100001, LEAST, MOST};
        for (int units : wrong) {
            Check.due("units " + units, x.fill(6, units), false);
            Check.due("reach 6 stays", x.look(4, 6), 100000);
        }
        Check.due("0", x.fill(6, 0), true);
        Check.due("reach 6", x.look(4, 6), 0);
    }

    @Holds(promise = 7, says = "Reach r has so many units: true")
    static void fillWhereAGateIsOpen() {
        LockKeepers x = withGates();
        Check.due("open", x.run(0, 2, 0, 100), ENDED);
        Check.due("the reach below", x.fill(2, 77), true);
        Check.due("its units", x.look(4, 2), 77);
    }

    // ---- promise 8

    @Holds(promise = 8, says = "Chamber k has so many units: true")
    static void fillEachChamber() {
        LockKeepers x = new LockKeepers();
        for (int k = 0; k < 6; k++) {
            Check.due("chamber " + k, x.chamber(k, 100 + k), true);
        }
        for (int k = 0; k < 6; k++) {
            Check.due("units of " + k, x.look(0, k), 100 + k);
            Check.due("a reach has none of it", x.look(4, k), 0);
        }
        Check.due("again", x.chamber(3, 0), true);
        Check.due("so many, not so many more", x.look(0, 3), 0);
    }

    @Holds(promise = 8, says = "false if there is none such")
    static void fillAChamberThatThereIsNot() {
        LockKeepers x = new LockKeepers();
        Check.due("chamber(-1)", x.chamber(-1, 5), false);
        Check.due("chamber(6)", x.chamber(6, 5), false);
        for (int k : FAR) {
            Check.due("chamber(" + k + ")", x.chamber(k, 5), false);
        }
        isUnused(x);
    }

    @Holds(promise = 8, says = "they are not 0 .. 10000")
    static void fillAChamberWithTooLittleOrTooMuch() {
        LockKeepers x = new LockKeepers();
        Check.due("10000", x.chamber(5, 10000), true);
        int[] wrong = {-1, 10001, 100000, LEAST, MOST};
        for (int units : wrong) {
            Check.due("units " + units, x.chamber(5, units), false);
            Check.due("chamber 5 stays", x.look(0, 5), 10000);
        }
        Check.due("0", x.chamber(5, 0), true);
        Check.due("chamber 5", x.look(0, 5), 0);
    }

    @Holds(promise = 8, says = "or one of its gates is open")
    static void fillAChamberWithAnOpenGate() {
        for (int k = 0; k < 6; k++) {
            for (int s = 0; s < 2; s++) {
                LockKeepers x = withGates();
                Check.due("open", x.run(0, k, s, 100), ENDED);
                Check.due("chamber " + k + " with gate " + s + " open", x.chamber(k, 3), false);
                Check.due("its units stay", x.look(0, k), 0);
                for (int other = 0; other < 6; other++) {
                    if (other != k) {
                        Check.due("another chamber's gates are shut", x.chamber(other, 3), true);
                    }
                }
                Check.due("shut", x.run(1, k, s, 100), ENDED);
                Check.due("chamber then", x.chamber(k, 3), true);
                Check.due("its units", x.look(0, k), 3);
            }
        }
    }

    // ---- promise 9

    @Holds(promise = 9, says = "Ship s lies at place p: true")
    static void berthEachShipAtEachPlace() {
        for (int s = 0; s < 8; s++) {
            LockKeepers x = new LockKeepers();
            for (int p = 12; p >= 0; p--) {
                Check.due("berth(" + s + ", " + p + ")", x.berth(s, p), true);
                Check.due("ship " + s, x.look(5, s), p);
                Check.due("another ship stays", x.look(5, (s + 1) % 8), 0);
            }
        }
    }

    @Holds(promise = 9, says = "false if there is none such")
    static void berthOfNoneSuch() {
        LockKeepers x = new LockKeepers();
        int[] ships = {-1, 8};
        int[] places = {-1, 13};
        for (int i = 0; i < 2; i++) {
            Check.due("ship " + ships[i], x.berth(ships[i], 1), false);
            Check.due("place " + places[i], x.berth(7, places[i]), false);
        }
        for (int far : FAR) {
            Check.due("ship " + far, x.berth(far, 1), false);
            Check.due("place " + far, x.berth(7, far), false);
        }
        isUnused(x);
    }

    @Holds(promise = 9, says = "or another one lies there and it is a chamber")
    static void berthWhereAnotherOneLies() {
        LockKeepers x = new LockKeepers();
        for (int p = 1; p < 13; p++) {
            boolean chamber = p % 2 == 1;
            Check.due("the first one at " + p, x.berth(0, p), true);
            Check.due("the last one at " + p, x.berth(7, p), !chamber);
            Check.due("where it lies", x.look(5, 7), chamber ? Math.max(p - 1, 0) : p);
            Check.due("the first one again", x.berth(0, p), true);
        }
        LockKeepers y = new LockKeepers();
        Check.due("the last one", y.berth(7, 11), true);
        Check.due("an earlier one", y.berth(0, 11), false);
        Check.due("itself", y.berth(7, 11), true);
        Check.due("away", y.berth(7, 10), true);
        Check.due("an earlier one then", y.berth(0, 11), true);
    }

    @Holds(promise = 9, says = "another one lies there and it is a chamber")
    static void berthOfAllAtOneReach() {
        LockKeepers x = new LockKeepers();
        for (int s = 0; s < 8; s++) {
            Check.due("berth(" + s + ", 12)", x.berth(s, 12), true);
        }
        for (int s = 0; s < 8; s++) {
            Check.due("ship " + s, x.look(5, s), 12);
        }
    }

    // ---- promise 10: what a call answers, and refusals

    @Holds(promise = 10, says = "0 it ended with an answer, 1 it is OVER by stop, 2 by FUEL, 3 it ended with a TROUBLE")
    static void howARunEnds() {
        LockKeepers x = with("duty f(){}duty g(){answer 0;}duty h(){stop;}duty i(){while 1{}}duty j(){fail 10;}");
        int[] due = {ENDED, ENDED, STOPPED, NO_FUEL, TROUBLED};
        for (int d = 0; d < due.length; d++) {
            Check.due("run " + d, x.run(d, 0, 0, 50), due[d]);
            Check.due("told(0)", x.told(0), due[d]);
        }
    }

    @Holds(promise = 10, says = "IllegalStateException: there is no book")
    static void runWithoutABook() {
        LockKeepers x = new LockKeepers();
        Check.due("fuel 0", thrown(x, 0, 0), STATE);
        Check.due("fuel 20000", thrown(x, 0, 20000), STATE);
        Check.due("a faulty text", Check.read(x, "duty f(){"), 2);
        Check.due("still no book", thrown(x, 0, 10), STATE);
        Check.due("told(0)", x.told(0), NONE);
        Check.due("told(17)", x.told(17), 0);
    }

    @Holds(promise = 10, says = "or all runs together had 200000 FUEL or more")
    static void runBehind200000() {
        LockKeepers x = with("duty f(){while 1{}}duty g(){}");
        for (int i = 0; i < 10; i++) {
            Check.due("run " + i, x.run(0, 0, 0, 20000), NO_FUEL);
        }
        Check.due("all of them", x.told(17), 200000);
        int[] told = allTold(x);
        Check.due("no more", thrown(x, 1, 10), STATE);
        Check.due("not without FUEL either", thrown(x, 1, 0), STATE);
        toldIs(x, told);
        Check.due("a new book", Check.read(x, "duty f(){}"), 0);
        Check.due("does not help", thrown(x, 0, 10), STATE);
    }

    @Holds(promise = 10, says = "or all runs together had 200000 FUEL or more")
    static void runAt199999() {
        LockKeepers x = with("duty f(){while 1{}}duty g(){}");
        for (int i = 0; i < 10; i++) {
            Check.due("run " + i, x.run(0, 0, 0, i < 9 ? 20000 : 19999), NO_FUEL);
        }
        Check.due("all but one", x.told(17), 199999);
        Check.due("a run of no FUEL", x.run(1, 0, 0, 0), NO_FUEL);
        Check.due("still all but one", x.told(17), 199999);
        Check.due("one more", x.run(0, 0, 0, 20000), NO_FUEL);
        Check.due("beyond", x.told(17), 219999);
        Check.due("no more", thrown(x, 1, 10), STATE);
    }

    @Holds(promise = 10, says = "(what they did not use is none)")
    static void fuelThatWasNotUsed() {
        LockKeepers x = with("duty f(){}");
        for (int i = 1; i <= 40; i++) {
            Check.due("run " + i, x.run(0, 0, 0, 20000), ENDED);
            Check.due("used", x.told(17), i);
            Check.due("left", x.told(5), 19999);
        }
    }

    @Holds(promise = 10, says = "IllegalArgumentException: there is no such DUTY")
    static void runOfNoSuchDuty() {
        LockKeepers x = with(times("duty f#(){}", 30));
        Check.due("the last one", thrown(x, 29, 10), 0);
        Check.due("behind it", thrown(x, 30, 10), ARGUMENT);
        Check.due("-1", thrown(x, -1, 10), ARGUMENT);
        for (int d : FAR) {
            Check.due("duty " + d, thrown(x, d, 10), ARGUMENT);
        }
        LockKeepers y = with("duty f(){}");
        Check.due("the second of one", thrown(y, 1, 10), ARGUMENT);
    }

    @Holds(promise = 10, says = "or fuel is not 0 .. 20000")
    static void runWithWrongFuel() {
        LockKeepers x = with("duty f(){}");
        Check.due("0", x.run(0, 0, 0, 0), NO_FUEL);
        Check.due("20000", x.run(0, 0, 0, 20000), ENDED);
        Check.due("its FUEL", x.told(5), 19999);
        int[] wrong = {-1, 20001, LEAST, MOST};
        for (int fuel : wrong) {
            Check.due("fuel " + fuel, thrown(x, 0, fuel), ARGUMENT);
        }
    }

    @Holds(promise = 10, term = 5, says = "A call that is refused or throws changes nothing but what is told.")
    static void refusedRunChangesNothing() {
        LockKeepers x = with("duty f(a){note a;hold 1{open 1,0;}fail 20;}");
        Check.due("run", x.run(0, 8, 0, 100), TROUBLED);
        int[] told = allTold(x);
        Check.due("no such duty", thrown(x, 1, 100), ARGUMENT);
        Check.due("no such fuel", thrown(x, 0, 20001), ARGUMENT);
        toldIs(x, told);
        logIs("as it was", x, 0, 8, 1, 1, 3, 2, 2, 1, 7, 20);
        Check.due("the gate", x.look(1, 1), 1);
        Check.due("the book", x.duty(-1, 0), 1);
    }

    @Holds(promise = 10, term = 5, says = "A call that is refused or throws changes nothing but what is told.")
    static void refusedCallsChangeNothing() {
        LockKeepers x = with("duty f(a){hold 1{open 1,0;}note a;fail 20;}");
        Check.due("a faulty text", Check.read(x, "duty f(){>"), 1);
        Check.due("run", x.run(0, 8, 0, 100), TROUBLED);
        Check.due("chamber", x.chamber(0, 7), true);
        Check.due("fill", x.fill(6, 70), true);
        Check.due("berth", x.berth(7, 11), true);
        Check.due("the tape", feed(x, "duty  gg(){}"), true);
        for (int i = 1; i < 150; i++) {
            Check.due("the tape", feed(x, ""), true);
        }
        String before = allOf(x);
        Check.due("feed", feed(x, "!"), false);
        Check.due("end", x.end(3001), false);
        Check.due("end", x.end(-1), false);
        Check.due("fill", x.fill(7, 5), false);
        Check.due("fill", x.fill(6, 100001), false);
        Check.due("chamber", x.chamber(6, 5), false);
        Check.due("chamber", x.chamber(0, 10001), false);
        Check.due("chamber", x.chamber(1, 5), false);
        Check.due("berth", x.berth(8, 0), false);
        Check.due("berth", x.berth(7, 13), false);
        Check.due("berth", x.berth(0, 11), false);
        Check.due("run", thrown(x, 1, 10), ARGUMENT);
        Check.due("run", thrown(x, 0, 20001), ARGUMENT);
        String after = allOf(x);
        Check.due("all is as it was:\n" + before + "\n" + after + "\n", after.equals(before), true);
        Check.due("the tape has all", x.end(3000), true);
        Check.due("and is read", x.read(), 0);
        Check.due("as it was", x.duty(0, 2), 6);
    }

    /** Every answer of the calls that only tell. */
    private static String allOf(LockKeepers x) {
        StringBuilder all = new StringBuilder();
        for (int what : ALL_TOLD) {
            all.append(" t").append(x.told(what));
        }
        for (int i = 0; i < 6; i++) {
            all.append(" l").append(x.log(i, 0)).append(",").append(x.log(i, 1));
        }
        for (int k = 0; k < 8; k++) {
            for (int what = 0; what < 7; what++) {
                all.append(" k").append(x.look(what, k));
            }
        }
        for (int what = 0; what < 4; what++) {
            all.append(" d").append(x.duty(0, what)).append(",").append(x.duty(NONE, what));
        }
        return all.append(" f").append(x.fault(0)).append(",").append(x.fault(1)).toString();
    }

    @Holds(promise = 10, term = 5,
            says = "a DUTY is called with a and b as its first two parameters (as many as it has, others 0)")
    static void parametersOfARun() {
        LockKeepers x = with("duty f(){answer 5;}duty g(a){answer a;}duty h(a,b){answer a-b;}"
                + "duty i(a,b,c,d,e,g,j,k){note c;note d;note e;note g;note j;note k;answer a-b;}");
        int[] due = {5, LEAST, LEAST - 7, LEAST - 7};
        for (int d = 0; d < 4; d++) {
            Check.due("run " + d, x.run(d, LEAST, 7, 100), ENDED);
            Check.due("answer " + d, x.told(1), due[d]);
        }
        logIs("others", x, 0, 0, 0, 0, 0, 0, 0, 0, 0, 0, 0, 0);
    }

    @Holds(promise = 10, term = 5, says = "LOG and counts are empty")
    static void eachRunBeginsAnew() {
        LockKeepers x = with("duty f(){later{note 1;}hold 1{try{fail 20;}mend any{fail 30;}always{}}}duty g(){}");
        Check.due("the first", x.run(0, 0, 0, 100), TROUBLED);
        toldIs(x, 3, 0, 30, 20, 52, 100 - 7, 1, 1, 1, 1, 1, 1, 2, 1, 0, 1, 8, 7, TROUBLE);
        Check.due("the second", x.run(1, 0, 0, 50), ENDED);
        toldIs(x, 0, 0, 0, 0, NONE, 49, 0, 0, 0, 0, 0, 0, 0, 0, 0, 1, 0, 8, END);
        Check.due("log", x.log(0, 0), NONE);
        Check.due("the third", x.run(0, 0, 0, 0), NO_FUEL);
        toldIs(x, 2, 0, 0, 0, NONE, 0, 0, 0, 0, 0, 0, 0, 0, 0, 0, 0, 0, 8, 0);
    }

    // ---- promise 11

    @Holds(promise = 11, says = "(ahead of any 0, of 0 and 4 NONE)")
    static void toldAheadOfAnyRun() {
        LockKeepers x = with("duty f(){}");
        toldIs(x, NONE, 0, 0, 0, NONE, 0, 0, 0, 0, 0, 0, 0, 0, 0, 0, 0, 0, 0, 0);
        Check.due("a run that is refused", thrown(x, 0, -1), ARGUMENT);
        toldIs(x, NONE, 0, 0, 0, NONE, 0, 0, 0, 0, 0, 0, 0, 0, 0, 0, 0, 0, 0, 0);
    }

    @Holds(promise = 11, says = "Of the latest RUN")
    static void toldOfTheLatestRun() {
        LockKeepers x = with("duty f(){answer 5;}duty g(){fail 20;}");
        for (int i = 0; i < 3; i++) {
            Check.due("an answer", x.run(0, 0, 0, 10), ENDED);
            toldIs(x, 0, 5, 0, 0, NONE, 8, 0, 0, 0, 0, 0, 0, 0, 0, 0, 1, 0, 4 * i + 2, ANSWER);
            Check.due("a trouble", x.run(1, 0, 0, 10), TROUBLED);
            toldIs(x, 3, 0, 20, 0, 28, 8, 0, 0, 0, 0, 0, 0, 1, 0, 0, 1, 1, 4 * i + 4, TROUBLE);
        }
    }

    @Holds(promise = 11, says = "NONE for another what.")
    static void toldOfAnotherWhat() {
        LockKeepers x = did("answer 5;", ENDED);
        Check.due("told(-1)", x.told(-1), NONE);
        Check.due("told(19)", x.told(19), NONE);
        Check.due("told(20)", x.told(20), NONE);
        for (int what : FAR) {
            Check.due("told(" + what + ")", x.told(what), NONE);
        }
    }

    @Holds(promise = 11, says = "1 its answer (0 without one)")
    static void toldAnswer() {
        Check.due("at the END", did("", ENDED).told(1), 0);
        Check.due("without E", did("answer;", ENDED).told(1), 0);
        Check.due("with E", did("answer a;", ENDED).told(1), 3);
        Check.due("below 0", did("answer -1;", ENDED).told(1), -1);
        Check.due("by stop", did("try{answer 5;}always{stop;}", STOPPED).told(1), 0);
        Check.due("by FUEL", did("try{answer 5;}always{while 1{}}", NO_FUEL).told(1), 0);
        Check.due("by TROUBLE", did("try{answer 5;}always{fail 20;}", TROUBLED).told(1), 0);
        Check.due("a call's answer is not the run's", did("if a{main(0,7);}else{answer b;}", ENDED).told(1), 0);
    }

    @Holds(promise = 11, says = "4 the PLACE of the TROUBLE with which it ended (0, 0, NONE without one)")
    static void toldOfTheTrouble() {
        troubleIs(did("try{fail 20;}mend any{ fail 30;}", TROUBLED), 30, 20, inMain(23));
        String[] without = {"", "answer 5;", "try{fail 20;}mend any{}", "try{fail 20;}always{stop;}",
            "try{fail 20;}always{while 1{}}", "try{fail 20;}always{answer 5;}"};
        int[] outcomes = {ENDED, ENDED, ENDED, STOPPED, NO_FUEL, ENDED};
        for (int i = 0; i < without.length; i++) {
            LockKeepers x = did(without[i], outcomes[i]);
            Check.due("kind", x.told(2), 0);
            Check.due("cause", x.told(3), 0);
            Check.due("place", x.told(4), NONE);
        }
    }

    @Holds(promise = 11, says = "5 FUEL that is left")
    static void toldFuelLeft() {
        LockKeepers x = with("duty f(){note 1;}duty g(){stop;}duty h(){fail 20;}duty i(){while 1{}}");
        int[] left = {3, 3, 3, 0};
        for (int d = 0; d < 4; d++) {
            x.run(d, 0, 0, 5);
            Check.due("left by " + d, x.told(5), left[d]);
        }
        Check.due("all used", x.told(17), 2 + 2 + 2 + 5);
        Check.due("just enough", x.run(0, 0, 0, 2), ENDED);
        Check.due("none left", x.told(5), 0);
    }

    @Holds(promise = 11, says = "6 HOLDS taken, 7 HOLDS let go")
    static void toldHolds() {
        LockKeepers x = did("hold 0{hold 0{}hold 5{}}try{hold 6{}}mend 3{}", ENDED);
        Check.due("taken", x.told(6), 3);
        Check.due("let go", x.told(7), 3);
        x = did("hold 0{hold 0{fail 20;}}", TROUBLED);
        Check.due("taken", x.told(6), 2);
        Check.due("let go", x.told(7), 2);
        x = did("hold 1{}hold 0{hold 0{stop;}}", STOPPED);
        Check.due("taken", x.told(6), 3);
        Check.due("let go", x.told(7), 1);
    }

    @Holds(promise = 11, says = "8 trials and rounds that were begun and have an always part")
    static void toldTrialsAndRounds() {
        String body = "try{}always{}try{}mend any{}try{fail 20;}mend any{}always{}while 0{}always{}"
                + "while a{a=a-1;}while b{b=b-1;}always{}each i from 1 to 2{}always{}each i from 1 to 2{}"
                + "repeat{}always{}until 1;repeat{}until 1;";
        LockKeepers x = did(body, ENDED);
        Check.due("begun", x.told(8), 2 + 4 + 2 + 1);
        Check.due("always parts", x.told(9), 2 + 4 + 2 + 1);
    }

    @Holds(promise = 11, says = "9 always parts that were begun")
    static void toldAlwaysPartsOfARunThatIsOver() {
        LockKeepers x = did("try{try{stop;}always{}}always{}", STOPPED);
        Check.due("trials", x.told(8), 2);
        Check.due("none begun", x.told(9), 0);
        x = did("try{try{}always{stop;}}always{}", STOPPED);
        Check.due("trials", x.told(8), 2);
        Check.due("one begun", x.told(9), 1);
    }

    @Holds(promise = 11, says = "10 laters pledged, 11 laters begun")
    static void toldLaters() {
        LockKeepers x = did("later{}later{later{}}", ENDED);
        Check.due("pledged", x.told(10), 3);
        Check.due("begun", x.told(11), 3);
        x = did("later{}later{stop;}later{}", STOPPED);
        Check.due("pledged", x.told(10), 3);
        Check.due("begun", x.told(11), 2);
        x = did("later{}stop;", STOPPED);
        Check.due("pledged", x.told(10), 1);
        Check.due("begun", x.told(11), 0);
    }

    @Holds(promise = 11, says = "12 troubles that came, 13 mended, 14 lost")
    static void toldTroubles() {
        LockKeepers x = did("try{try{fail 20;}always{fail 30;}}mend any{}fail 40;", TROUBLED);
        Check.due("came", x.told(12), 3);
        Check.due("mended", x.told(13), 1);
        Check.due("lost", x.told(14), 1);
        x = did("try{fail 20;}always{stop;}", STOPPED);
        Check.due("came", x.told(12), 1);
        Check.due("a run that is OVER loses none", x.told(14), 0);
    }

    @Holds(promise = 11, says = "15 calls")
    static void toldCalls() {
        Check.due("the run's own", did("", ENDED).told(15), 1);
        Check.due("three more", did("if a{main(a-1,0);}", ENDED).told(15), 4);
        Check.due("two in an E", did("if a{note main(0,0)+main(0,0);}", ENDED).told(15), 3);
        LockKeepers x = with("duty f(){}");
        Check.due("without FUEL", x.run(0, 0, 0, 0), NO_FUEL);
        Check.due("none", x.told(15), 0);
    }

    @Holds(promise = 11, says = "16 entries of the LOG in all")
    static void toldEntries() {
        LockKeepers x = with("duty f(n){each i from 1 to n{note i;}}");
        int[] counts = {0, 1, 299, 300, 301, 5000};
        for (int count : counts) {
            Check.due("run", x.run(0, count, 0, 20000), ENDED);
            Check.due("entries", x.told(16), count);
        }
    }

    @Holds(promise = 11, says = "17 FUEL that all runs used")
    static void toldFuelOfAll() {
        LockKeepers x = with("duty f(n){each i from 1 to n{}}");
        Check.due("run", x.run(0, 10, 0, 100), ENDED);
        Check.due("used", x.told(17), 12);
        Check.due("a run that is refused", thrown(x, 5, 10), ARGUMENT);
        Check.due("used", x.told(17), 12);
        Check.due("run", x.run(0, 200, 0, 100), NO_FUEL);
        Check.due("used", x.told(17), 112);
        Check.due("another book", Check.read(x, "duty f(){}"), 0);
        Check.due("used", x.told(17), 112);
    }

    @Holds(promise = 11,
            says = "18 the WAY by which its DUTY's call was left (1 END, 2 ANSWER, 4 TROUBLE, 0 OVER, or ahead of any)")
    static void toldWay() {
        Check.due("END", did("", ENDED).told(18), END);
        Check.due("ANSWER", did("answer;", ENDED).told(18), ANSWER);
        Check.due("TROUBLE", did("fail 10;", TROUBLED).told(18), TROUBLE);
        Check.due("OVER by stop", did("stop;", STOPPED).told(18), 0);
        Check.due("OVER by FUEL", did("while 1{}", NO_FUEL).told(18), 0);
        Check.due("a called duty's is not it", did("if a{main(0,0);}else{answer 5;}", ENDED).told(18), END);
        Check.due("behind its laters", did("later{answer 5;}", ENDED).told(18), ANSWER);
        Check.due("ahead of any", new LockKeepers().told(18), 0);
    }

    // ---- promise 12

    @Holds(promise = 12, says = "Entry i of the LOG: 0 its sort, 1 its number.")
    static void logOfAllSorts() {
        String text = "duty f(){note -9;hold 5{open 5,1;sail 7,0;shut 5,1;sluice 5,1,3;}^later{}"
                + "^try{try{fail 20;}mend 20{note kind;}fail 30;}always{answer 1;}}";
        LockKeepers x = with(plain(text));
        Check.due("berth", x.berth(7, 12), true);
        Check.due("chamber", x.chamber(5, 1), true);
        Check.due("run", x.run(0, 0, 0, 100), ENDED);
        logIs("all sorts", x, 0, -9, 1, 5, 3, 11, 6, 16 * 7 + 11, 4, 11, 5, 110001, 2, 5, 7, 20, 8, 20, 0, 20, 7, 30,
                11, place(text, 1), 9, 30, 10, place(text, 0));
    }

    @Holds(promise = 12, says = "NONE if there is none such")
    static void logOfNoEntry() {
        LockKeepers x = with("duty f(n){each i from 1 to n{note i+100;}}");
        Check.due("ahead of any run", x.log(0, 0), NONE);
        Check.due("run", x.run(0, 3, 0, 100), ENDED);
        for (int what = 0; what < 2; what++) {
            Check.due("the last one", x.log(2, what), what == 0 ? 0 : 103);
            Check.due("behind it", x.log(3, what), NONE);
            Check.due("entry -1", x.log(-1, what), NONE);
            for (int i : FAR) {
                Check.due("entry " + i, x.log(i, what), NONE);
            }
        }
        Check.due("a shorter run", x.run(0, 1, 0, 100), ENDED);
        Check.due("its last one", x.log(0, 1), 101);
        Check.due("one of the run before", x.log(1, 1), NONE);
    }

    @Holds(promise = 12, says = "it is not kept")
    static void logOfEntriesNotKept() {
        LockKeepers x = with("duty f(n){each i from 1 to n{note i;}}");
        int[] counts = {299, 300, 301, 600};
        for (int count : counts) {
            Check.due("run", x.run(0, count, 0, 20000), ENDED);
            Check.due("entry 298", x.log(298, 1), 299);
            Check.due("entry 299", x.log(299, 1), count >= 300 ? 300 : NONE);
            Check.due("entry 299's sort", x.log(299, 0), count >= 300 ? 0 : NONE);
            Check.due("entry 300", x.log(300, 1), NONE);
            Check.due("entry 300's sort", x.log(300, 0), NONE);
        }
    }

    @Holds(promise = 12, term = 5, says = "THE LOG has sorts and numbers, the first 300 are kept.")
    static void logKeepsTheFirstOfAllSorts() {
        LockKeepers x = with("duty f(){each i from 1 to 299{note 5;}hold 4{open 4,1;}}");
        Check.due("run", x.run(0, 0, 0, 20000), ENDED);
        Check.due("all", x.told(16), 302);
        Check.due("the 300th's sort", x.log(299, 0), 1);
        Check.due("the 300th's number", x.log(299, 1), 4);
        Check.due("the 301st", x.log(300, 0), NONE);
        Check.due("what is not kept is done all the same", x.look(2, 4), 1);
    }

    @Holds(promise = 12, says = "or for another what")
    static void logOfAnotherWhat() {
        LockKeepers x = did("note 5;", ENDED);
        Check.due("log(0, -1)", x.log(0, -1), NONE);
        Check.due("log(0, 2)", x.log(0, 2), NONE);
        for (int what : FAR) {
            Check.due("log(0, " + what + ")", x.log(0, what), NONE);
        }
    }

    // ---- promise 13

    @Holds(promise = 13, says = "0 chamber k's units, 1 its lower gate (1 open), 2 its upper gate, 3 its HOLDS")
    static void lookAtEachLock() {
        for (int k = 0; k < 6; k++) {
            for (int s = 0; s < 2; s++) {
                LockKeepers x = withGates();
                Check.due("chamber", x.chamber(k, 1), true);
                Check.due("open", x.run(0, k, s, 100), ENDED);
                for (int other = 0; other < 6; other++) {
                    boolean same = other == k;
                    Check.due("units", x.look(0, other), same ? 1 : 0);
                    Check.due("lower", x.look(1, other), same && s == 0 ? 1 : 0);
                    Check.due("upper", x.look(2, other), same && s == 1 ? 1 : 0);
                    Check.due("HOLDS", x.look(3, other), 0);
                }
            }
        }
    }

    @Holds(promise = 13, says = "4 reach k's units; 5 ship k's place")
    static void lookAtReachesAndShips() {
        LockKeepers x = new LockKeepers();
        Check.due("fill", x.fill(6, 19), true);
        Check.due("units, not the level", x.look(4, 6), 19);
        Check.due("berth", x.berth(7, 12), true);
        Check.due("ship 7", x.look(5, 7), 12);
        Check.due("ship 6", x.look(5, 6), 0);
    }

    @Holds(promise = 13, says = "6 units of water in all")
    static void lookAtAllWater() {
        LockKeepers x = with("duty f(){hold 3{sluice 3,1,1000;}}");
        Check.due("none", x.look(6, 0), 0);
        int sum = 0;
        for (int r = 0; r < 7; r++) {
            sum += 100000 - r;
            Check.due("fill", x.fill(r, 100000 - r), true);
            Check.due("in all", x.look(6, 0), sum);
        }
        for (int k = 0; k < 6; k++) {
            sum += 9000 + k;
            Check.due("chamber", x.chamber(k, 9000 + k), true);
            Check.due("in all", x.look(6, 0), sum);
        }
        Check.due("water moves", x.run(0, 0, 0, 2000), ENDED);
        Check.due("some went", x.look(0, 3) != 9003, true);
        Check.due("none is lost", x.look(6, 0), sum);
    }

    @Holds(promise = 13, says = "NONE for another what")
    static void lookAtAnotherWhat() {
        LockKeepers x = new LockKeepers();
        Check.due("look(-1)", x.look(-1, 0), NONE);
        Check.due("look(7)", x.look(7, 0), NONE);
        for (int what : FAR) {
            Check.due("look(" + what + ")", x.look(what, 0), NONE);
        }
    }

    @Holds(promise = 13, says = "or if there is none such")
    static void lookAtNoneSuch() {
        LockKeepers x = new LockKeepers();
        int[] last = {5, 5, 5, 5, 6, 7};
        for (int what = 0; what < last.length; what++) {
            Check.due("first of " + what, x.look(what, 0), 0);
            Check.due("last of " + what, x.look(what, last[what]), 0);
            Check.due("ahead of " + what, x.look(what, -1), NONE);
            Check.due("behind " + what, x.look(what, last[what] + 1), NONE);
            for (int k : FAR) {
                Check.due("look(" + what + ", " + k + ")", x.look(what, k), NONE);
            }
        }
    }
}
