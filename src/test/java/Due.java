/** What all tests use: albums made from a text, answers held against what is due. */
final class Due {
    private int wrong;

    void is(String call, long got, long want) {
        if (got != want) {
            wrong++;
            System.out.println(call + " answered " + got + ", due is " + want);
        }
    }

    void same(String what, String got, String want) {
        if (!got.equals(want)) {
            wrong++;
            System.out.println(what + ": it is " + got + ", due is " + want);
        }
    }

    void end() {
        if (wrong != 0) {
            System.out.println(wrong + " answers are not as due");
            System.exit(1);
        }
    }

    static void text(AgingStamps x, String text) {
        x.wipe();
        for (int i = 0; i < text.length(); i++) {
            x.write(text.charAt(i));
        }
    }

    static AgingStamps album(String text) {
        AgingStamps x = new AgingStamps();
        text(x, text);
        if (x.album() < 0) {
            System.out.println("no album: " + text);
            System.exit(1);
        }
        return x;
    }

    static void weeks(AgingStamps x, int n) {
        for (int i = 0; i < n; i++) {
            x.week();
        }
    }

    /** A seed by which the next number of weeks (what is left by 10) is the one that is told. */
    static long seedFor(int weeks) {
        for (long seed = 0; seed < 1000; seed++) {
            long next = seed * 6364136223846793005L + 1442695040888963407L;
            if ((next >>> 33) % 10 == weeks) {
                return seed;
            }
        }
        return 0;
    }
}
