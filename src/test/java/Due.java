/** What a test asks for: answers that are not as due are printed and counted. */
final class Due {
    private static final int PATIENCE = 60_000;

    private volatile int asked = 0;
    private volatile String latest = "the start";
    private int wrong = 0;

    Due() {
        Thread watcher = new Thread(this::watch);
        watcher.setDaemon(true);
        watcher.start();
    }

    /** A call that doesn't end isn't as due, either. */
    private void watch() {
        int before = -1;
        try {
            while (asked != before) {
                before = asked;
                Thread.sleep(PATIENCE);
            }
        } catch (InterruptedException interrupted) {
            return;
        }
        System.out.println("no answer for a minute, since " + latest);
        Runtime.getRuntime().halt(1);
    }

    void due(String call, long got, long want) {
        asked++;
        latest = call;
        if (got != want) {
            wrong++;
            System.out.println(call + " answered " + got + ", due is " + want);
        }
    }

    void end() {
        System.out.println(wrong == 0 ? asked + " answers are as due" : wrong + " answers are not as due");
        if (wrong != 0 || asked == 0) {
            System.exit(1);
        }
    }

    int wrong() {
        return wrong;
    }

    /** Feeds a text of characters 0 to 255 to the tape, eight bytes at a time. */
    static void feed(VectorWays x, String text) {
        for (int start = 0; start < text.length(); start += 8) {
            int n = Math.min(8, text.length() - start);
            x.feed(eight(text.substring(start, start + n)), n);
        }
    }

    static long eight(String text) {
        long all = 0;
        for (int i = 0; i < text.length(); i++) {
            all |= (long) (text.charAt(i) & 0xff) << (8 * i);
        }
        return all;
    }

    /** The rule of part 0 of a new object becomes a text. */
    static int rule(String text) {
        VectorWays x = new VectorWays();
        x.part(1, 0);
        feed(x, text);
        return x.rule(0);
    }

    static VectorWays with(int... steps) {
        VectorWays x = new VectorWays();
        for (int i = 0; i + 1 < steps.length; i += 2) {
            x.part(steps[i], steps[i + 1]);
        }
        return x;
    }
}
