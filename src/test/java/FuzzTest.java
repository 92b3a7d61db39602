import java.util.Random;

/** Compares the class with the Oracle on texts made by chance. Arguments: [ignored [texts [first seed]]] */
public final class FuzzTest {
    private FuzzTest() {
    }

    public static void main(String[] args) {
        int texts = args.length > 1 ? Integer.parseInt(args[1]) : 20000;
        long first = args.length > 2 ? Long.parseLong(args[2]) : 1;
        int[] seen = new int[9];
        int[] ends = new int[4];
        for (long seed = first; seed < first + texts && Check.isAllRight(); seed++) {
            Random chance = new Random(seed);
            LockKeepers x = new LockKeepers();
            Oracle o = new Oracle();
            canal(seed, x, o, chance);
            for (int i = 0; i < 2; i++) {
                String text = textOf(chance);
                int fault = readBoth(seed, x, o, text);
                seen[fault]++;
                if (o.duty(-1, 0) > 0) {
                    runs(seed, x, o, chance, ends);
                }
                if (!Check.isAllRight()) {
                    System.out.println("seed " + seed + ", text:\n" + text);
                }
            }
        }
        System.out.println("faults " + java.util.Arrays.toString(seen) + ", ends " + java.util.Arrays.toString(ends));
        Check.finish("FuzzTest");
    }

    private static String textOf(Random chance) {
        TextMaker maker = new TextMaker(chance);
        String text = "";
        do {
            if (chance.nextInt(8) == 0) {
                text = maker.edgeText();
                continue;
            }
            int slip = chance.nextInt(3) == 0 ? 5 + chance.nextInt(60) : 0;
            text = maker.text(2 + chance.nextInt(40), slip);
            if (chance.nextInt(4) == 0) {
                text = maker.spoiled();
            }
        } while (text.length() > 2980);
        return text;
    }

    private static void canal(long seed, LockKeepers x, Oracle o, Random chance) {
        for (int i = chance.nextInt(12); i > 0; i--) {
            int k = chance.nextInt(9) - 1;
            int units = chance.nextInt(6) == 0 ? chance.nextInt() : chance.nextInt(30);
            String who = "seed " + seed + " canal " + k + " " + units;
            Check.due(who, x.fill(k, 10 * units), o.fill(k, 10 * units));
            Check.due(who, x.chamber(k, units), o.chamber(k, units));
            Check.due(who, x.berth(k, units % 14), o.berth(k, units % 14));
        }
    }

    private static int readBoth(long seed, LockKeepers x, Oracle o, String text) {
        for (int from = 0; from < text.length(); from += 20) {
            int[] f = Check.twenty(text, from);
            Check.due("feed", x.feed(f[0], f[1], f[2], f[3], f[4]), o.feed(f[0], f[1], f[2], f[3], f[4]));
        }
        Check.due("end", x.end(text.length()), o.end(text.length()));
        int fault = o.read();
        Check.due("seed " + seed + " read", x.read(), fault);
        for (int what = -1; what < 3; what++) {
            Check.due("seed " + seed + " fault " + what, x.fault(what), o.fault(what));
        }
        for (int d = -2; d < 6; d++) {
            for (int what = -1; what < 5; what++) {
                Check.due("seed " + seed + " duty " + d + " " + what, x.duty(d, what), o.duty(d, what));
            }
        }
        return fault;
    }

    private static void runs(long seed, LockKeepers x, Oracle o, Random chance, int[] ends) {
        for (int d = 0; d < Math.min(o.duty(-1, 0), 6); d++) {
            int fuel = chance.nextInt(3) == 0 ? chance.nextInt(60) : chance.nextInt(2000);
            int a = chance.nextInt(14);
            int b = chance.nextInt(4) == 0 ? chance.nextInt() : chance.nextInt(3);
            String who = "seed " + seed + " run " + d + " " + a + " " + b + " " + fuel + ": ";
            int end = o.run(d, a, b, fuel);
            ends[end]++;
            Check.due(who, x.run(d, a, b, fuel), end);
            compare(who, x, o);
        }
    }

    private static void compare(String who, LockKeepers x, Oracle o) {
        for (int what = -1; what < 20; what++) {
            Check.due(who + "told " + what, x.told(what), o.told(what));
        }
        for (int i = -1; i < 302; i++) {
            for (int what = 0; what < 3; what++) {
                Check.due(who + "log " + i + " " + what, x.log(i, what), o.log(i, what));
            }
        }
        for (int what = -1; what < 8; what++) {
            for (int k = -1; k < 9; k++) {
                Check.due(who + "look " + what + " " + k, x.look(what, k), o.look(what, k));
            }
        }
    }
}
