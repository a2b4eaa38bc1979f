/**
 * All that an object holds, told as one text, so that two with the same past can be held
 * against one another. The object is used up by being asked: acts are undone, slots gone on from.
 */
final class Everything {
    private static final int[] WEEK_DAMP_COME_DEAD = {3, 4, 7, 8};

    private Everything() {
    }

    static String of(AgingStamps x) {
        StringBuilder told = new StringBuilder();
        surface(x, told);
        told.append(" fault ").append(x.fault());
        for (int s = 0; s < 5; s++) {
            told.append(' ').append(x.bought(s));
        }
        told.append(" seed ").append(x.seed(0));
        for (int i = 0; i < 15; i++) {
            told.append(" undo ").append(x.undo());
            post(x, told, new int[] {0, 6}, new int[0]);
        }
        for (int slot = 0; slot < 2; slot++) {
            told.append(" again ").append(x.again(slot));
            post(x, told, new int[] {0, 1, 6, 7}, new int[] {0, 4});
        }
        told.append(" album ").append(x.album());
        post(x, told, new int[] {0, 1, 2, 7}, new int[] {0, 1});
        return told.toString();
    }

    /** What can be looked at without a change. */
    static String surfaceOf(AgingStamps x) {
        StringBuilder told = new StringBuilder();
        surface(x, told);
        return told.toString();
    }

    private static void surface(AgingStamps x, StringBuilder told) {
        told.append("count");
        for (int what = 0; what <= 10; what++) {
            told.append(' ').append(x.count(what));
        }
        for (int s = 0; s < 5; s++) {
            for (int what = 0; what <= 7; what++) {
                told.append(what == 0 ? " stamp " : " ").append(x.stamp(s, what));
            }
        }
        for (int l = 0; l < 4; l++) {
            for (int what = 0; what <= 4; what++) {
                told.append(what == 0 ? " letter " : " ").append(x.letter(l, what));
            }
        }
    }

    private static void post(AgingStamps x, StringBuilder told, int[] ofStamps, int[] ofLetters) {
        for (int what : WEEK_DAMP_COME_DEAD) {
            told.append(' ').append(x.count(what));
        }
        for (int what : ofStamps) {
            for (int s = 0; s < 5; s++) {
                told.append(' ').append(x.stamp(s, what));
            }
        }
        for (int what : ofLetters) {
            for (int l = 0; l < 4; l++) {
                told.append(' ').append(x.letter(l, what));
            }
        }
    }
}
