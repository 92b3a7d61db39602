/** The boundary cases of the canal that promise 10's run() finds: orders, levels, queries (terms 2 and 4). */
public final class EdgesOfCanalTest extends Bench {
    private static final int OPEN = 0;
    private static final int SHUT = 1;
    private static final int OPEN_FREE = 2;
    private static final int SHUT_FREE = 3;
    private static final String GATES = "duty op(k,s){hold k{open k,s;}}duty sh(k,s){hold k{shut k,s;}}"
            + "duty ofree(k,s){open k,s;}duty sfree(k,s){shut k,s;}";
    private static final int SAIL = 4;
    private static final int SAIL_FREE = 5;
    private static final String SAILS = GATES
            + "duty sa(s,u){hold 0{hold 1{hold 2{hold 3{hold 4{hold 5{sail s,u;}}}}}}}duty safree(s,u){sail s,u;}";
    private static final int[] NO_LOCKS = {-1, 6, 7, LEAST, MOST};
    private static final int[] NO_SIDES = {-1, 2, LEAST, MOST};
    private static final int[] NO_SHIPS = {-1, 8, LEAST, MOST};

    private EdgesOfCanalTest() {
    }

    public static void main(String[] args) throws Exception {
        Edges.run(EdgesOfCanalTest.class);
    }

    // ---- helpers

    /** The kind of the TROUBLE with which the duty ends, 0 if it ends without one. */
    private static int kind(LockKeepers x, int d, int a, int b) {
        Check.due("how it ends", x.run(d, a, b, 3000), x.told(2) == 0 ? ENDED : TROUBLED);
        return x.told(2);
    }

    private static void done(LockKeepers x, int d, int a, int b) {
        Check.due("done " + d + " " + a + " " + b, x.run(d, a, b, 3000), ENDED);
    }

    private static void set(boolean done) {
        Check.due("set", done, true);
    }

    /** A chamber 2 and the reach at its side s with these units, sluiced by n at most. */
    private static LockKeepers sluiced(int s, int chamber, int reach, int n, int fuel) {
        LockKeepers x = with("duty f(n,s){hold 2{sluice 2,s,n;}}");
        set(x.chamber(2, chamber));
        set(x.fill(2 + s, reach));
        x.run(0, n, s, fuel);
        return x;
    }

    private static void sluices(int chamber, int reach, int n, int into) {
        for (int s = 0; s < 2; s++) {
            LockKeepers x = sluiced(s, chamber, reach, n, 3000);
            String who = "sluice of " + chamber + ", " + reach + ", " + n + " at side " + s;
            int went = into < 0 ? -into : into;
            logIs(who, x, 1, 2, 5, 10000 * (4 + s) + went, 2, 2);
            Check.due(who + ": chamber", x.look(0, 2), chamber + into);
            Check.due(who + ": reach", x.look(4, 2 + s), reach - into);
            Check.due(who + ": the other reach", x.look(4, 3 - s), 0);
            Check.due(who + ": FUEL", x.told(5), 3000 - 3 - went);
        }
    }

    // ---- term 4: what there is

    @Holds(promise = 10, term = 4,
            says = "LOCKS 0 .. 5; lock k stands between REACH k, below it, and REACH k + 1.")
    static void locksStandBetweenReaches() {
        for (int k = 0; k < 6; k++) {
            for (int s = 0; s < 2; s++) {
                LockKeepers x = with("duty f(k,s){hold k{sluice k,s,1000;}}");
                set(x.fill(k + s, 100));
                done(x, 0, k, s);
                Check.due("lock " + k + " side " + s + " fills from its reach", x.look(0, k) > 0, true);
                Check.due("all water", x.look(6, 0), 100);
                Check.due("from that reach", x.look(4, k + s) + x.look(0, k), 100);
            }
        }
    }

    @Holds(promise = 10, term = 4,
            says = "A CHAMBER has units of water, which are its LEVEL; a REACH has units, its LEVEL is a tenth of them, cut.")
    static void levels() {
        LockKeepers x = with("duty f(k){note level(k);note reach(k);}");
        int[][] due = {{0, 0}, {1, 0}, {9, 0}, {10, 1}, {11, 1}, {19, 1}, {20, 2}, {9999, 999}, {10000, 1000}};
        for (int[] c : due) {
            set(x.chamber(5, c[0]));
            set(x.fill(5, c[0]));
            done(x, 0, 5, 0);
            logIs("level of " + c[0], x, 0, c[0], 0, c[1]);
        }
        set(x.fill(5, 100000));
        done(x, 0, 5, 0);
        Check.due("the highest reach", x.log(1, 1), 10000);
        set(x.fill(5, 99999));
        done(x, 0, 5, 0);
        Check.due("cut", x.log(1, 1), 9999);
    }

    @Holds(promise = 10, term = 4, says = "At first all are 0, shut, at place 0.")
    static void atFirst() {
        LockKeepers x = with("duty f(){each k from 0 to 5{note level(k)+gate(k,0)+gate(k,1)+held(k);}"
                + "each r from 0 to 6{note reach(r);}each s from 0 to 7{note ship(s);}}");
        done(x, 0, 0, 0);
        Check.due("entries", x.told(16), 21);
        for (int i = 0; i < 21; i++) {
            Check.due("entry " + i, x.log(i, 1), 0);
        }
    }

    @Holds(promise = 10, term = 4, says = "SHIPS 0 .. 7 lie at PLACES 0 .. 12: 2 r is reach r, 2 k + 1 chamber k.")
    static void shipsGoAllTheWay() {
        LockKeepers x = with("duty up(s){each k from 0 to 5{hold k{open k,0;sail s,1;shut k,0;open k,1;sail s,1;shut k,1;}}}"
                + "duty down(s){each i from 0 to 5{var k=5-i;hold k{open k,1;sail s,0;shut k,1;open k,0;sail s,0;shut k,0;}}}");
        for (int s = 0; s < 8; s += 7) {
            Check.due("up", x.run(0, s, 0, 1000), ENDED);
            for (int k = 0; k < 6; k++) {
                int[] due = {1, k, 3, 2 * k, 6, 16 * s + 2 * k + 1, 4, 2 * k, 3, 2 * k + 1, 6, 16 * s + 2 * k + 2,
                    4, 2 * k + 1, 2, k};
                for (int i = 0; i < 8; i++) {
                    Check.due("sort", x.log(8 * k + i, 0), due[2 * i]);
                    Check.due("number", x.log(8 * k + i, 1), due[2 * i + 1]);
                }
            }
            Check.due("at the top", x.look(5, s), 12);
            Check.due("down", x.run(1, s, 0, 1000), ENDED);
            Check.due("at the bottom", x.look(5, s), 0);
        }
    }

    @Holds(promise = 10, term = 4, says = "All E's are worked first; then, in the order told, the first TROUBLE of an order.")
    static void esAreWorkedFirst() {
        failsIn("^open 9,1/0;", 1, 0);
        failsIn("^shut 9,1/0;", 1, 0);
        failsIn("^sluice 9,9,1/0;", 1, 0);
        failsIn("^sail 9,1/0;", 1, 0);
        String[] orders = {"open 9,s(9);", "shut 9,s(9);", "sluice 9,9,s(9);", "sail 9,s(9);"};
        for (String order : orders) {
            logs("duty f(){" + order + "}duty s(n){note n;answer n;}", TROUBLED, 0, 9, 7, 3);
        }
    }

    // ---- term 2: kind 3

    @Holds(promise = 10, term = 2, says = "3 no such lock (0 .. 5), side (0 the lower, 1 the upper one)")
    static void kind3OfLocksAndSides() {
        LockKeepers x = with("duty o(k,s){open k,s;}duty h(k,s){shut k,s;}duty l(k,s){sluice k,s,0;}duty g(k,s){note gate(k,s);}"
                + "duty v(k){note level(k);}duty d(k){note held(k);}duty t(k){hold k{}}");
        for (int k : NO_LOCKS) {
            for (int d = 0; d < 7; d++) {
                Check.due("lock " + k + " in " + d, kind(x, d, k, 0), 3);
            }
        }
        for (int s : NO_SIDES) {
            for (int d = 0; d < 4; d++) {
                Check.due("side " + s + " in " + d, kind(x, d, 5, s), 3);
            }
        }
        // the last ones that there are
        for (int d = 0; d < 3; d++) {
            Check.due("lock 5, side 1 in " + d, kind(x, d, 5, 1), 4);
        }
        for (int d = 3; d < 7; d++) {
            Check.due("lock 5, side 1 in " + d, kind(x, d, 5, 1), 0);
            Check.due("lock 0, side 0 in " + d, kind(x, d, 0, 0), 0);
        }
    }

    @Holds(promise = 10, term = 2, says = "reach (0 .. 6), ship (0 .. 7), or units not 0 .. 1000, "
            + "or a ship that is told neither 0 nor 1")
    static void kind3OfReachesShipsUnits() {
        LockKeepers x = with("duty r(k){note reach(k);}duty s(k){note ship(k);}duty l(n){hold 0{sluice 0,0,n;}}"
                + "duty a(s,u){sail s,u;}");
        int[][] due = {{0, 0, 0}, {0, 6, 0}, {0, 7, 3}, {0, -1, 3}, {0, LEAST, 3}, {0, MOST, 3}, {1, 0, 0}, {1, 7, 0},
            {1, 8, 3}, {1, -1, 3}, {1, LEAST, 3}, {1, MOST, 3}, {2, 0, 0}, {2, 1000, 0}, {2, 1001, 3}, {2, -1, 3},
            {2, LEAST, 3}, {2, MOST, 3}};
        for (int[] c : due) {
            Check.due("duty " + c[0] + " of " + c[1], kind(x, c[0], c[1], 0), c[2]);
        }
        for (int s : NO_SHIPS) {
            Check.due("sail " + s + ", 1", kind(x, 3, s, 1), 3);
            Check.due("sail " + s + ", 0", kind(x, 3, s, 0), 3);
        }
        for (int u : NO_SIDES) {
            Check.due("sail 7, " + u, kind(x, 3, 7, u), 3);
        }
        Check.due("sail 7, 1", kind(x, 3, 7, 1), 4);
        Check.due("sail 7, 0", kind(x, 3, 7, 0), 9);
    }

    // ---- term 4: open and shut

    @Holds(promise = 10, term = 4, says = "open k, s (3, 4, 6, 5: the levels of chamber and that side's reach differ by more "
            + "than 1): the gate is open")
    static void openInOrder() {
        // all troubles at once, and one less each time
        LockKeepers x = with(GATES);
        done(x, OPEN, 3, 1);
        set(x.fill(3, 100));
        Check.due("no such lock", kind(x, OPEN_FREE, 9, 0), 3);
        Check.due("no such side", kind(x, OPEN_FREE, 3, 2), 3);
        Check.due("not held ahead of the other gate", kind(x, OPEN_FREE, 3, 0), 4);
        Check.due("the other gate ahead of uneven", kind(x, OPEN, 3, 0), 6);
        done(x, SHUT, 3, 1);
        Check.due("uneven", kind(x, OPEN, 3, 0), 5);
        Check.due("it stays shut", x.look(1, 3), 0);
        set(x.fill(3, 19));
        Check.due("even", kind(x, OPEN, 3, 0), 0);
        Check.due("it is open", x.look(1, 3), 1);
        Check.due("the other one is not", x.look(2, 3), 0);
    }

    @Holds(promise = 10, term = 4, says = "5: the levels of chamber and that side's reach differ by more than 1")
    static void unevenByMoreThanOne() {
        int[][] due = {{0, 0, 0}, {0, 9, 0}, {0, 10, 0}, {0, 19, 0}, {0, 20, 5}, {1, 0, 0}, {2, 0, 5}, {2, 9, 5}, {2, 10, 0},
            {10, 89, 5}, {10, 90, 0}, {10, 119, 0}, {10, 120, 5}, {10000, 100000, 0}, {10000, 99990, 0}, {10000, 99989, 5},
            {0, 100000, 5}, {10000, 0, 5}};
        for (int[] c : due) {
            for (int s = 0; s < 2; s++) {
                LockKeepers x = with(GATES);
                set(x.chamber(4, c[0]));
                set(x.fill(4 + s, c[1]));
                // the other side's reach has no say
                set(x.fill(5 - s, 5000));
                Check.due("chamber " + c[0] + ", reach " + c[1] + " at side " + s, kind(x, OPEN, 4, s), c[2]);
                Check.due("the gate", x.look(1 + s, 4), c[2] == 0 ? 1 : 0);
                Check.due("the other gate", x.look(2 - s, 4), 0);
                Check.due("no water goes", x.look(0, 4), c[0]);
            }
        }
    }

    @Holds(promise = 10, term = 2, says = "4 the lock is not held.")
    static void notHeld() {
        LockKeepers x = with("duty f(k,s){hold k{}open k,s;}duty g(k,s){hold k-1{open k,s;}}duty h(k,s){hold k{i(k,s);}}"
                + "duty i(k,s){open k,s;}duty j(k,s){later{open k,s;}hold k{}}duty l(k,s){hold k{hold k{}open k,s;}}");
        Check.due("held no more", kind(x, 0, 3, 0), 4);
        Check.due("another lock is held", kind(x, 1, 3, 0), 4);
        Check.due("a caller holds it", kind(x, 2, 3, 0), 0);
        Check.due("nobody does", kind(x, 3, 3, 0), 4);
        Check.due("a later behind the hold", kind(x, 4, 3, 0), 4);
        Check.due("still held once", kind(x, 5, 3, 0), 0);
    }

    @Holds(promise = 10, term = 4, says = "shut k, s (3, 4): it is shut")
    static void shutInOrder() {
        LockKeepers x = with(GATES);
        done(x, OPEN, 0, 0);
        set(x.fill(0, 5000));
        Check.due("no such lock", kind(x, SHUT_FREE, -1, 0), 3);
        Check.due("no such side", kind(x, SHUT_FREE, 0, -1), 3);
        Check.due("not held", kind(x, SHUT_FREE, 0, 0), 4);
        Check.due("it stays open", x.look(1, 0), 1);
        Check.due("uneven or not", kind(x, SHUT, 0, 0), 0);
        Check.due("it is shut", x.look(1, 0), 0);
        done(x, OPEN, 0, 1);
        Check.due("the other gate, which was shut", kind(x, SHUT, 0, 0), 0);
        Check.due("leaves this one", x.look(2, 0), 1);
    }

    @Holds(promise = 10, term = 4,
            says = "LOGGED are: sort 3, 2 * k + s, also when it was open already (all is asked then, too); sort 4, likewise")
    static void gatesAreLogged() {
        for (int k = 0; k < 6; k++) {
            for (int s = 0; s < 2; s++) {
                LockKeepers x = with(GATES);
                for (int i = 0; i < 2; i++) {
                    done(x, OPEN, k, s);
                    logIs("open", x, 1, k, 3, 2 * k + s, 2, k);
                }
                set(x.fill(k + s, 20));
                Check.due("asked though it is open", kind(x, OPEN, k, s), 5);
                logIs("not opened", x, 1, k, 7, 5, 2, k);
                Check.due("still open", x.look(1 + s, k), 1);
                Check.due("open, not held", kind(x, OPEN_FREE, k, s), 4);
                for (int i = 0; i < 2; i++) {
                    done(x, SHUT, k, s);
                    logIs("shut", x, 1, k, 4, 2 * k + s, 2, k);
                }
                Check.due("shut, not held", kind(x, SHUT_FREE, k, s), 4);
                logIs("not shut", x, 7, 4);
            }
        }
    }

    @Holds(promise = 10, term = 2, says = "6 the other gate is open.")
    static void theOtherGate() {
        for (int s = 0; s < 2; s++) {
            LockKeepers x = with(GATES + "duty sl(k,s){hold k{sluice k,s,5;}}");
            done(x, OPEN, 2, s);
            Check.due("open the other one", kind(x, OPEN, 2, 1 - s), 6);
            Check.due("sluice at the other one", kind(x, 4, 2, 1 - s), 6);
            Check.due("its own open gate is none", kind(x, 4, 2, s), 0);
            Check.due("another lock's gate", kind(x, OPEN, 3, 1 - s), 0);
            done(x, SHUT, 2, s);
            Check.due("then", kind(x, OPEN, 2, 1 - s), 0);
        }
    }

    // ---- term 4: sluice

    @Holds(promise = 10, term = 4, says = "sluice k, s, n (3, 4, 6)")
    static void sluiceInOrder() {
        LockKeepers x = with(GATES + "duty sl(n,s){hold 3{sluice 3,s,n;}}duty slfree(n,s){sluice 3,s,n;}"
                + "duty no(k){sluice k,0,0;}");
        done(x, OPEN, 3, 1);
        Check.due("no such lock", kind(x, 6, 6, 0), 3);
        Check.due("no such side", kind(x, 5, 5, 2), 3);
        Check.due("no such units", kind(x, 5, 1001, 0), 3);
        Check.due("not held ahead of the other gate", kind(x, 5, 5, 0), 4);
        Check.due("the other gate", kind(x, 4, 5, 0), 6);
        Check.due("even for no units", kind(x, 4, 0, 0), 6);
        done(x, SHUT, 3, 1);
        Check.due("none", kind(x, 4, 5, 0), 0);
    }

    @Holds(promise = 10, term = 4, says = "of chamber and that side's reach one unit after the other goes from the one whose "
            + "level is the higher one at first to the other, as long as it is the higher one, n at most")
    static void sluicedUnits() {
        // chamber, reach, n, and how many come into the chamber (below 0: go out of it)
        sluices(0, 0, 1000, 0);
        sluices(5, 50, 1000, 0);
        sluices(5, 59, 1000, 0);
        sluices(5, 60, 1000, 1);
        sluices(4, 50, 1000, 1);
        sluices(6, 50, 1000, -1);
        sluices(6, 59, 1000, -1);
        // the last unit makes the reach the higher one
        sluices(10, 0, 1000, -10);
        sluices(10, 0, 10, -10);
        sluices(1, 0, 1000, -1);
        sluices(1, 9, 1000, -1);
        sluices(2, 9, 1000, -1);
        sluices(0, 9, 1000, 0);
        sluices(0, 10, 1000, 1);
        sluices(0, 11, 1000, 1);
        sluices(0, 19, 1000, 1);
        sluices(0, 20, 1000, 1);
        sluices(0, 21, 1000, 2);
        sluices(0, 100, 1000, 9);
        sluices(0, 110, 1000, 10);
        sluices(10, 0, 0, 0);
        sluices(10, 0, 1, -1);
        sluices(10, 0, 8, -8);
        sluices(10, 0, 9, -9);
        sluices(0, 100000, 999, 999);
        sluices(0, 100000, 1000, 1000);
        sluices(10000, 0, 1000, -1000);
        sluices(10000, 99999, 1000, -1);
        sluices(9999, 100000, 1000, 1);
    }

    @Holds(promise = 10, term = 4,
            says = "sort 5, 10000 * (2 * k + s) + how many units went, also when it ended by a lack of FUEL")
    static void sluicesAreLogged() {
        for (int k = 0; k < 6; k++) {
            for (int s = 0; s < 2; s++) {
                LockKeepers x = with("duty f(k,s){hold k{sluice k,s,1000;}}");
                set(x.chamber(k, 5000));
                done(x, 0, k, s);
                logIs("sluice", x, 1, k, 5, 10000 * (2 * k + s) + 1000, 2, k);
                Check.due("a lack of FUEL", x.run(0, k, s, 3 + 7), NO_FUEL);
                logIs("sluice", x, 1, k, 5, 10000 * (2 * k + s) + 7);
                Check.due("chamber", x.look(0, k), 4000 - 7);
                Check.due("reach", x.look(4, k + s), 1000 + 7);
                Check.due("no FUEL for the first unit", x.run(0, k, s, 3), NO_FUEL);
                logIs("sluice", x, 1, k, 5, 10000 * (2 * k + s));
                Check.due("chamber", x.look(0, k), 4000 - 7);
                Check.due("held no more", x.look(3, k), 0);
            }
        }
    }

    // ---- term 4: sail

    @Holds(promise = 10, term = 4,
            says = "sail s, u (3, 9, 4 of the lock at whose gate it is, 7, 8): ship s goes one place up (u 1) or down (0), "
            + "through the gate between the two places")
    static void sailInOrder() {
        LockKeepers x = with(SAILS);
        Check.due("no such ship", kind(x, SAIL_FREE, 8, 0), 3);
        Check.due("told neither 0 nor 1", kind(x, SAIL_FREE, 0, 2), 3);
        Check.due("no place beyond ahead of not held", kind(x, SAIL_FREE, 0, 0), 9);
        set(x.berth(6, 2));
        set(x.berth(7, 3));
        Check.due("not held ahead of shut", kind(x, SAIL_FREE, 6, 1), 4);
        Check.due("shut ahead of a ship in the chamber", kind(x, SAIL, 6, 1), 7);
        done(x, OPEN, 1, 0);
        Check.due("a ship in the chamber", kind(x, SAIL, 6, 1), 8);
        Check.due("it stays", x.look(5, 6), 2);
        set(x.berth(7, 0));
        Check.due("none", kind(x, SAIL, 6, 1), 0);
        Check.due("it goes", x.look(5, 6), 3);
    }

    @Holds(promise = 10, term = 2, says = "9 no place beyond.")
    static void noPlaceBeyond() {
        LockKeepers x = with(SAILS);
        Check.due("below the lowest", kind(x, SAIL, 0, 0), 9);
        set(x.berth(0, 12));
        Check.due("above the highest", kind(x, SAIL, 0, 1), 9);
        Check.due("down from the highest", kind(x, SAIL, 0, 0), 7);
        set(x.berth(0, 11));
        Check.due("up to the highest", kind(x, SAIL, 0, 1), 7);
        set(x.berth(0, 1));
        Check.due("down to the lowest", kind(x, SAIL, 0, 0), 7);
    }

    @Holds(promise = 10, term = 4, says = "4 of the lock at whose gate it is")
    static void sailWithTheRightLockHeld() {
        LockKeepers x = with(SAILS + "duty one(s,u){hold 2{sail s,u;}}");
        // from place p up it is the gate of lock p / 2, from place p down that of lock (p - 1) / 2
        for (int p = 0; p < 13; p++) {
            set(x.berth(0, p));
            if (p < 12) {
                Check.due("up from " + p, kind(x, 6, 0, 1), p / 2 == 2 ? 7 : 4);
            }
            if (p > 0) {
                Check.due("down from " + p, kind(x, 6, 0, 0), (p - 1) / 2 == 2 ? 7 : 4);
            }
        }
    }

    @Holds(promise = 10, term = 2, says = "7 the gate is shut.")
    static void sailThroughTheRightGate() {
        for (int p = 0; p < 12; p++) {
            LockKeepers x = with(SAILS);
            int k = p / 2;
            set(x.berth(0, p));
            done(x, OPEN, k, 1 - p % 2);
            Check.due("the other gate is open", kind(x, SAIL, 0, 1), 7);
            done(x, SHUT, k, 1 - p % 2);
            done(x, OPEN, k, p % 2);
            Check.due("this one is", kind(x, SAIL, 0, 1), 0);
            Check.due("up", x.look(5, 0), p + 1);
            Check.due("back", kind(x, SAIL, 0, 0), 0);
            Check.due("down", x.look(5, 0), p);
        }
    }

    @Holds(promise = 10, term = 2, says = "8 there is a ship in that chamber.")
    static void sailWhereAnotherShipIs() {
        LockKeepers x = with(SAILS);
        done(x, OPEN, 0, 0);
        done(x, OPEN, 1, 1);
        Check.due("the last ship into chamber 0", kind(x, SAIL, 7, 1), 0);
        for (int s = 0; s < 7; s++) {
            Check.due("ship " + s, kind(x, SAIL, s, 1), 8);
        }
        Check.due("back to all the others", kind(x, SAIL, 7, 0), 0);
        Check.due("where they are", x.look(5, 7), 0);
        set(x.berth(3, 4));
        set(x.berth(4, 4));
        Check.due("down into chamber 1", kind(x, SAIL, 3, 0), 0);
        Check.due("another one", kind(x, SAIL, 4, 0), 8);
        Check.due("up again, where it is", kind(x, SAIL, 3, 1), 0);
        Check.due("then it may", kind(x, SAIL, 4, 0), 0);
    }

    @Holds(promise = 10, term = 4, says = "sort 6, 16 * s + the new place")
    static void sailsAreLogged() {
        LockKeepers x = with(GATES + "duty sa(s,u){hold 5{sail s,u;}}");
        done(x, OPEN, 5, 1);
        for (int s = 0; s < 8; s++) {
            set(x.berth(s, 12));
            done(x, 4, s, 0);
            logIs("down", x, 1, 5, 6, 16 * s + 11, 2, 5);
            done(x, 4, s, 1);
            logIs("up", x, 1, 5, 6, 16 * s + 12, 2, 5);
        }
    }

    // ---- term 4: queries

    @Holds(promise = 10, term = 4, says = "level(k) is chamber k's level, reach(r) reach r's, gate(k, s) 1 if it is open, "
            + "ship(s) its place, held(k) its HOLDS; 3 if there is none such")
    static void queriesOfEach() {
        LockKeepers x = with(GATES + "duty q(k,s){note level(k);note reach(k);note gate(k,s);note ship(k);note held(k);"
                + "hold k{hold k{note held(k);}note held(k);}}");
        for (int k = 0; k < 6; k++) {
            set(x.chamber(k, 10 + k));
            set(x.fill(k, 100 + 10 * k));
            set(x.berth(k, 12 - k));
        }
        for (int k = 0; k < 6; k++) {
            done(x, OPEN, k, 0);
            done(x, 4, k, 0);
            logIs("of " + k, x, 0, 10 + k, 0, 10 + k, 0, 1, 0, 12 - k, 0, 0, 1, k, 0, 2, 0, 1, 2, k);
            done(x, 4, k, 1);
            Check.due("the other gate", x.log(2, 1), 0);
        }
        LockKeepers y = with("duty r(){note reach(6);note ship(7);note ship(6);}");
        set(y.fill(6, 77));
        set(y.berth(7, 9));
        done(y, 0, 0, 0);
        logIs("the last ones", y, 0, 7, 0, 9, 0, 0);
    }

    @Holds(promise = 10, term = 4, says = "3 if there is none such")
    static void queriesOfNoneSuch() {
        String[] queries = {"level", "reach", "ship", "held"};
        int[] last = {5, 6, 7, 5};
        for (int i = 0; i < queries.length; i++) {
            LockKeepers x = with("duty f(k){note " + queries[i] + "(k);note 1;}");
            int[] none = {-1, last[i] + 1, LEAST, MOST};
            for (int k : none) {
                Check.due(queries[i] + "(" + k + ")", kind(x, 0, k, 0), 3);
                logIs("nothing is noted", x, 7, 3);
            }
            Check.due(queries[i] + " of the last one", kind(x, 0, last[i], 0), 0);
            Check.due(queries[i] + " of the first one", kind(x, 0, 0, 0), 0);
        }
        LockKeepers x = with("duty f(k,s){note gate(k,s);}");
        int[][] none = {{-1, 0}, {6, 0}, {0, -1}, {0, 2}, {6, 2}, {LEAST, 0}, {0, MOST}, {3, -2}, {-1, 2}};
        for (int[] c : none) {
            Check.due("gate(" + c[0] + ", " + c[1] + ")", kind(x, 0, c[0], c[1]), 3);
        }
    }

    @Holds(promise = 10, term = 5, says = "A RUN: LOG and counts are empty")
    static void canalStaysFromRunToRun() {
        LockKeepers x = with(GATES);
        done(x, OPEN, 1, 0);
        set(x.fill(6, 50));
        Check.due("another book", Check.read(x, "duty f(){note gate(1,0);note reach(6);}"), 0);
        done(x, 0, 0, 0);
        logIs("the canal", x, 0, 1, 0, 5);
    }
}
