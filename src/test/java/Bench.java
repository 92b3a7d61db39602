/** What tests of the promises share: texts that are read and run, with what is due then. */
abstract class Bench {
    static final int NONE = -1;
    static final int END = 1;
    static final int ANSWER = 2;
    static final int TROUBLE = 4;
    static final int MOST = Integer.MAX_VALUE;
    static final int LEAST = Integer.MIN_VALUE;
    /** How runs end. */
    static final int ENDED = 0;
    static final int STOPPED = 1;
    static final int NO_FUEL = 2;
    static final int TROUBLED = 3;
    /** What thrown() answers. */
    static final int STATE = 1;
    static final int ARGUMENT = 2;
    /** AT + i in a due log is the place of mark i in the text. */
    static final int AT = 1000000000;
    private static final int MOST_MARKS = 20;
    private static final String HEAD = "duty main(a,b){";
    /** The FUEL of a run that is to have enough. */
    static final int PLENTY = 10000;

    static LockKeepers with(String text) {
        LockKeepers x = new LockKeepers();
        Check.due("read " + text, Check.read(x, text), 0);
        return x;
    }

    static LockKeepers ran(String text, int a, int b, int outcome) {
        LockKeepers x = with(text);
        Check.due("run " + text, x.run(0, a, b, PLENTY), outcome);
        return x;
    }

    /** A main with this body, run with 3 and 4. */
    static LockKeepers did(String body, int outcome) {
        return ran(HEAD + body + "}", 3, 4, outcome);
    }

    static void logIs(String who, LockKeepers x, int... pairs) {
        Check.due(who + " log's length", x.told(16), pairs.length / 2);
        for (int i = 0; i < pairs.length / 2; i++) {
            Check.due(who + " log " + i + " sort", x.log(i, 0), pairs[2 * i]);
            Check.due(who + " log " + i + " number", x.log(i, 1), pairs[2 * i + 1]);
        }
    }

    /** A main with this body is logged so when it is run with 3 and 4. Marks ^ are left out of the text. */
    static LockKeepers does(String body, int outcome, int... pairs) {
        return logs(HEAD + body + "}", outcome, pairs);
    }

    /** The first DUTY of the text is logged so when it is run with 3 and 4. */
    static LockKeepers logs(String text, int outcome, int... pairs) {
        LockKeepers x = ran(plain(text), 3, 4, outcome);
        int[] due = pairs.clone();
        for (int i = 1; i < due.length; i += 2) {
            due[i] = due[i] >= AT && due[i] < AT + MOST_MARKS ? place(text, due[i] - AT) : due[i];
        }
        logIs(text, x, due);
        return x;
    }

    static String plain(String text) {
        return text.replace("^", "");
    }

    /** Where the mark stands in the text without marks. */
    static int place(String text, int mark) {
        int at = -1;
        for (int i = 0; i <= mark; i++) {
            at = text.indexOf('^', at + 1);
        }
        return at - mark;
    }

    /** The run ended with a TROUBLE of this kind, CAUSE and place. */
    static void troubleIs(LockKeepers x, int kind, int cause, int place) {
        Check.due("how it ended", x.told(0), TROUBLED);
        Check.due("its kind", x.told(2), kind);
        Check.due("its cause", x.told(3), cause);
        Check.due("its place", x.told(4), place);
    }

    /** The first DUTY of the text, run with 3 and 4, ends with this TROUBLE at the first mark of the text. */
    static void fails(String text, int kind, int cause) {
        troubleIs(ran(plain(text), 3, 4, TROUBLED), kind, cause, place(text, 0));
    }

    /** A main with this body ends so. */
    static void failsIn(String body, int kind, int cause) {
        fails(HEAD + body + "}", kind, cause);
    }

    static int inMain(int place) {
        return place + HEAD.length();
    }

    static void notes(String e, int value) {
        does("note " + e + ";", 0, 0, value);
    }

    static void faulty(String text, int kind, int place) {
        LockKeepers x = new LockKeepers();
        Check.due("read " + text, Check.read(x, text), kind);
        Check.due("fault(0) " + text, x.fault(0), kind);
        Check.due("fault(1) " + text, x.fault(1), place);
        Check.due("no book " + text, x.duty(-1, 0), -1);
    }

    /** A text that has a fault at the mark ^, which is left out. */
    static void faultyAt(String text, int kind) {
        faulty(plain(text), kind, text.indexOf('^'));
    }

    /** A main whose body, with all that stands behind it, has a fault at the mark. */
    static void faultyBody(String body, int kind) {
        faultyAt(HEAD + body, kind);
    }

    static void fine(String text) {
        with(text);
    }

    static void ways(String body, int ways) {
        LockKeepers x = with(HEAD + body + "}duty f(){}");
        Check.due("ways of " + body, x.duty(0, 3), ways);
    }

    static String times(String part, int count) {
        StringBuilder out = new StringBuilder();
        for (int i = 0; i < count; i++) {
            out.append(part.replace("#", "" + i));
        }
        return out.toString();
    }

    static int thrown(LockKeepers x, int d, int fuel) {
        try {
            x.run(d, 0, 0, fuel);
            return 0;
        } catch (IllegalStateException e) {
            return 1;
        } catch (IllegalArgumentException e) {
            return 2;
        }
    }
}
