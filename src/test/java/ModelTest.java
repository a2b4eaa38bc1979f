import java.util.Random;

/** All promises: long runs of calls, ordinary and wrong, held against the model. */
public final class ModelTest {
    private static final Due due = new Due();
    private static final int[] ODD = {-1, 5, 4, 9, 11, 31, 99, 100, Integer.MIN_VALUE, Integer.MAX_VALUE};
    // Beyond 512 calls of an object answers are free: a new text (at most 55) and the look at
    // the end (195) must find room behind the last step.
    private static final int CALLS = 512 - 195 - 55;
    private static int run;
    private static int calls;

    public static void main(String[] args) {
        for (run = 0; run < 1400; run++) {
            Random chance = new Random(run);
            AgingStamps x = new AgingStamps();
            Model y = new Model();
            calls = 0;
            newText(chance, x, y);
            for (int i = 0; i < 300 && calls < CALLS; i++) {
                if (chance.nextInt(60) == 0) {
                    newText(chance, x, y);
                }
                step(chance, x, y);
            }
            look(x, y);
        }
        due.end();
    }

    /** A number from 0 below n, now and then another one. */
    private static int some(Random chance, int n) {
        return chance.nextInt(25) == 0 ? ODD[chance.nextInt(ODD.length)] : chance.nextInt(n);
    }

    private static String albumText(Random chance) {
        StringBuilder text = new StringBuilder("A");
        int stamps = chance.nextInt(6);
        int letters = chance.nextInt(5);
        for (int i = 0; i < stamps; i++) {
            text.append('S').append(chance.nextInt(3) == 0 ? chance.nextInt(10) : 4 + chance.nextInt(4));
            text.append(chance.nextInt(10)).append(chance.nextInt(4));
        }
        for (int i = 0; i < letters; i++) {
            text.append('L').append(1 + chance.nextInt(9)).append(1 + chance.nextInt(9));
        }
        for (int i = 0; i < 12 && text.length() < 46; i++) {
            String more = "J" + chance.nextInt(5) + chance.nextInt(5);
            if (Model.albumOf(text + more) != null && chance.nextInt(3) != 0) {
                text.append(more);
            }
        }
        return text.toString();
    }

    private static void newText(Random chance, AgingStamps x, Model y) {
        StringBuilder text = new StringBuilder(albumText(chance));
        if (chance.nextInt(3) == 0) {
            String signs = "ASJL0123456789x";
            for (int i = 0; i <= chance.nextInt(3); i++) {
                text.insert(chance.nextInt(text.length() + 1), signs.charAt(chance.nextInt(signs.length())));
            }
        }
        same("wipe", x.wipe(), y.wipe());
        for (int i = 0; i < text.length(); i++) {
            same("write", x.write(text.charAt(i)), y.write(text.charAt(i)));
        }
        same("fault of " + text, x.fault(), y.fault());
        same("album of " + text, x.album(), y.album());
    }

    private static void same(String call, long got, long want) {
        calls++;
        due.is("run " + run + ": " + call, got, want);
    }

    private static void step(Random chance, AgingStamps x, Model y) {
        int s = some(chance, 5);
        int t = some(chance, 5);
        int l = some(chance, 4);
        int k = some(chance, 4);
        int kind = chance.nextInt(34);
        if (kind < 10) {
            act(kind, new int[] {s, t, l}, x, y);
        } else if (kind < 20) {
            asked(chance, kind, new int[] {s, t, l, k}, x, y);
        } else {
            others(chance, kind, new int[] {s, l}, x, y);
        }
    }

    private static void act(int kind, int[] a, AgingStamps x, Model y) {
        switch (kind) {
            case 0: case 1: same("week", x.week(), y.week()); break;
            case 2: case 3: case 4:
                same("stick " + a[0] + ", " + a[2], x.stick(a[0], a[2]), y.stick(a[0], a[2])); break;
            case 5: case 6: same("send " + a[2], x.send(a[2]), y.send(a[2])); break;
            case 7: same("part " + a[0] + ", " + a[1], x.part(a[0], a[1]), y.part(a[0], a[1])); break;
            case 8: same("damp", x.damp(), y.damp()); break;
            default: same("undo", x.undo(), y.undo()); break;
        }
    }

    private static void asked(Random chance, int kind, int[] a, AgingStamps x, Model y) {
        boolean upper = chance.nextBoolean();
        int bits = some(chance, 32);
        int n = 1 + some(chance, 4);
        long row = row(chance);
        switch (kind) {
            case 10: same("lives", x.lives(a[0]), y.lives(a[0])); break;
            case 11: same("comes", x.comes(a[2], bits), y.comes(a[2], bits)); break;
            case 12: same("fewest", x.fewest(a[2]), y.fewest(a[2])); break;
            case 13: same("block", x.block(a[0]), y.block(a[0])); break;
            case 14: same("judge " + n + ", " + row, x.judge(n, row), y.judge(n, row)); break;
            case 15: same("bought", x.bought(a[0]), y.bought(a[0])); break;
            case 16: same("share", x.share(a[0], upper), y.share(a[0], upper)); break;
            case 17: case 18:
                int what = some(chance, 2);
                same("rests", x.rests(a[2], a[3], a[0], what), y.rests(a[2], a[3], a[0], what)); break;
            default:
                int m = some(chance, 6);
                int tenths = some(chance, 11);
                same("born", x.born(m, tenths, upper), y.born(m, tenths, upper)); break;
        }
    }

    private static long row(Random chance) {
        if (chance.nextInt(20) == 0) {
            return chance.nextLong();
        }
        long row = 0;
        for (int i = 0; i < 1 + chance.nextInt(4); i++) {
            int[] doings = {0, 100 + chance.nextInt(5) * 10 + chance.nextInt(4), 200 + chance.nextInt(4),
                300 + chance.nextInt(55), chance.nextInt(1000)};
            row = row * 1000 + doings[chance.nextInt(chance.nextInt(4) == 0 ? 5 : 4)];
        }
        return row;
    }

    private static void others(Random chance, int kind, int[] a, AgingStamps x, Model y) {
        int what = some(chance, 8);
        int slot = some(chance, 2);
        int weeks = some(chance, 60);
        int alive = some(chance, 2);
        long v = chance.nextLong();
        switch (kind) {
            case 20: case 21: same("see", x.see(a[0], weeks, alive), y.see(a[0], weeks, alive)); break;
            case 22:
                if (chance.nextInt(4) == 0) {
                    same("unsee", x.unsee(), y.unsee());
                }
                break;
            case 23: same("seed", x.seed(v), y.seed(v)); break;
            case 24: same("years", x.years(weeks), y.years(weeks)); break;
            case 25: same("keep", x.keep(slot), y.keep(slot)); break;
            case 26:
                if (chance.nextInt(3) == 0) {
                    same("again", x.again(slot), y.again(slot));
                }
                break;
            case 27: case 28: same("letter", x.letter(a[1], what), y.letter(a[1], what)); break;
            case 29: case 30: same("count", x.count(weeks % 12), y.count(weeks % 12)); break;
            case 31:
                if (chance.nextInt(8) == 0) {
                    same("album", x.album(), y.album());
                }
                break;
            default: same("stamp", x.stamp(a[0], what), y.stamp(a[0], what)); break;
        }
    }

    /** At the end of a run everything that can be looked at. */
    private static void look(AgingStamps x, Model y) {
        for (int what = -1; what <= 11; what++) {
            same("count " + what, x.count(what), y.count(what));
            for (int i = -1; i <= 5; i++) {
                same("stamp " + i + ", " + what, x.stamp(i, what), y.stamp(i, what));
                same("letter " + i + ", " + what, x.letter(i, what), y.letter(i, what));
            }
        }
    }
}
