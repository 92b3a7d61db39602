import java.util.Random;

/** Compares the class with the Oracle on 512 calls made by chance, wrong arguments and exceptions too. */
public final class CallsTest {
    private static final int[] EDGES = {Integer.MIN_VALUE, Integer.MAX_VALUE, -2, -1, 2999, 3000, 3001, 10000, 10001,
        20000, 20001, 100000, 100001, 299, 300};
    private static int calls;

    private CallsTest() {
    }

    public static void main(String[] args) {
        int objects = args.length > 1 ? Integer.parseInt(args[1]) : 1500;
        for (int seed = 0; seed < objects && Check.isAllRight(); seed++) {
            Random chance = new Random(seed);
            LockKeepers x = new LockKeepers();
            Oracle o = new Oracle();
            for (calls = 0; calls < 512;) {
                if (chance.nextInt(25) == 0) {
                    text(x, o, chance);
                } else {
                    call("seed " + seed + " call " + calls + " ", x, o, chance);
                }
            }
        }
        Check.finish("CallsTest");
    }

    private static int number(Random chance, int most) {
        return chance.nextInt(6) == 0 ? EDGES[chance.nextInt(EDGES.length)] : chance.nextInt(most);
    }

    private static void feed(LockKeepers x, Oracle o, int[] f) {
        Check.due("feed", x.feed(f[0], f[1], f[2], f[3], f[4]), o.feed(f[0], f[1], f[2], f[3], f[4]));
        calls++;
    }

    private static void text(LockKeepers x, Oracle o, Random chance) {
        TextMaker maker = new TextMaker(chance);
        String text = maker.text(2 + chance.nextInt(12), 0);
        if (chance.nextInt(8) == 0) {
            text = maker.spoiled();
        }
        if (chance.nextInt(4) != 0) {
            Check.due("end(0)", x.end(0), o.end(0));
            calls++;
        }
        for (int from = 0; from < text.length(); from += 20) {
            feed(x, o, Check.twenty(text, from));
        }
        Check.due("read", x.read(), o.read());
        calls++;
    }

    private static void call(String who, LockKeepers x, Oracle o, Random chance) {
        calls++;
        int which = chance.nextInt(24);
        int p = number(chance, 10);
        int q = number(chance, 20);
        String asked = who + which + "(" + p + ", " + q + ")";
        switch (which) {
            case 0: feed(x, o, new int[] {chance.nextInt(), chance.nextInt(), p, q, chance.nextInt()}); break;
            case 1: Check.due(asked, x.end(p * 20), o.end(p * 20)); break;
            case 2: Check.due(asked, x.read(), o.read()); break;
            case 3: case 4: Check.due(asked, x.fault(p), o.fault(p)); break;
            case 5: case 6: Check.due(asked, x.duty(p, q % 6), o.duty(p, q % 6)); break;
            case 7: Check.due(asked, x.fill(p, q * 7), o.fill(p, q * 7)); break;
            case 8: Check.due(asked, x.chamber(p, q), o.chamber(p, q)); break;
            case 9: Check.due(asked, x.berth(p, q), o.berth(p, q)); break;
            case 10: case 11: case 12: case 13: run(asked, x, o, chance); break;
            case 14: case 15: case 16: Check.due(asked, x.told(q), o.told(q)); break;
            case 17: case 18: case 19: Check.due(asked, x.log(q, p % 3), o.log(q, p % 3)); break;
            default: Check.due(asked, x.look(p, q % 9), o.look(p, q % 9)); break;
        }
    }

    private static void run(String who, LockKeepers x, Oracle o, Random chance) {
        int d = number(chance, 3);
        int a = number(chance, 12);
        int b = number(chance, 3);
        int fuel = chance.nextInt(3) == 0 ? number(chance, 30) : chance.nextInt(20000);
        long got;
        long due;
        try {
            got = x.run(d, a, b, fuel);
        } catch (IllegalStateException e) {
            got = 1001;
        } catch (IllegalArgumentException e) {
            got = 1002;
        }
        try {
            due = o.run(d, a, b, fuel);
        } catch (IllegalStateException e) {
            due = 1001;
        } catch (IllegalArgumentException e) {
            due = 1002;
        }
        Check.due(who + " run " + d + " " + a + " " + b + " " + fuel, got, due);
    }
}
