/** What the project's own tests share: feeding texts and counting wrong answers. */
final class Check {
    private static int wrong;
    private static int asked;
    private static String about = "";

    private Check() {
    }

    /** What stands ahead of each wrong answer from here on. */
    static void about(String words) {
        about = words;
    }

    static int asked() {
        return asked;
    }

    static void due(String what, long got, long want) {
        asked++;
        if (got != want) {
            wrong++;
            if (wrong <= 50) {
                System.out.println(about + what + " answered " + got + ", due is " + want);
            }
        }
    }

    static void due(String what, boolean got, boolean want) {
        due(what, got ? 1 : 0, want ? 1 : 0);
    }

    static boolean isAllRight() {
        return wrong == 0;
    }

    static void finish(String name) {
        System.out.println(name + ": " + asked + " answers, " + wrong + " not as due");
        if (wrong != 0) {
            System.exit(1);
        }
    }

    /** The five ints of the twenty bytes from there on, blanks behind the text's end. */
    static int[] twenty(String text, int from) {
        int[] ints = new int[5];
        for (int i = 0; i < 20; i++) {
            int at = from + i;
            int sign = at < text.length() ? text.charAt(at) : ' ';
            ints[i / 4] = ints[i / 4] << 8 | sign;
        }
        return ints;
    }

    /** Lays the text on the tape, which is empty, and reads it. */
    static int read(LockKeepers x, String text) {
        for (int from = 0; from < text.length(); from += 20) {
            int[] f = twenty(text, from);
            due("feed for a test", x.feed(f[0], f[1], f[2], f[3], f[4]), true);
        }
        due("end for a test", x.end(text.length()), true);
        return x.read();
    }
}
