/** Promises 27 to 29: keep, again, count. */
public final class SlotsTest {
    private static final Due due = new Due();

    public static void main(String[] args) {
        keeping();
        counting();
        due.end();
    }

    private static void keeping() {
        AgingStamps x = Due.album("AS390S600J01L13");
        due.is("unknown", x.keep(2), AgingStamps.UNKNOWN);
        due.is("unknown", x.keep(-1), AgingStamps.UNKNOWN);
        due.is("unknown", x.again(2), AgingStamps.UNKNOWN);
        due.is("unknown", x.again(-1), AgingStamps.UNKNOWN);
        due.is("none kept", x.again(0), AgingStamps.STATE);
        due.is("keep", x.keep(1), 0);
        due.is("none kept there", x.again(0), AgingStamps.STATE);
        x.stick(0, 0);
        x.send(0);
        x.damp();
        x.week();
        due.is("keep", x.keep(0), 1);
        due.is("keeping is no act", x.count(9), 4);
        x.part(0, 1);
        x.damp();
        x.week();
        x.see(0, 3, 1);
        x.seed(8);
        due.is("again", x.again(0), 1);
        due.is("row is empty", x.count(9), 0);
        due.is("nothing to undo", x.undo(), AgingStamps.STATE);
        due.is("age", x.stamp(0, 0), 34);
        due.is("health", x.stamp(0, 1), 8);
        due.is("joined", x.stamp(0, 7), 2);
        due.is("stuck", x.stamp(0, 6), 0);
        due.is("come", x.letter(0, 4), 2);
        due.is("left", x.letter(0, 0), 0);
        due.is("damp", x.count(4), 1);
        due.is("seen is not kept", x.count(10), 1);
        due.is("seed is not kept", x.seed(0), 8);
        x.week();
        due.is("again the same", x.again(0), 1);
        due.is("again the first", x.again(1), 0);
        due.is("age", x.stamp(0, 0), 30);
        due.is("health", x.stamp(0, 1), 9);
        due.is("not stuck", x.stamp(0, 6), AgingStamps.NONE);
        due.is("not sent", x.letter(0, 4), 0);
        due.is("left", x.letter(0, 0), 1);
        due.is("dry", x.count(4), 0);
        Due.weeks(x, 2);
        due.is("keep over", x.keep(1), 2);
        due.is("again", x.again(1), 2);
    }

    private static void counting() {
        AgingStamps x = Due.album("AS390S600S500J01L13L99L12");
        x.stick(0, 0);
        x.send(0);
        x.stick(2, 2);
        x.see(0, 1, 1);
        Due.weeks(x, 2);
        x.damp();
        int[] want = {25, 3, 3, 2, 1, 5, 1, 1, 0, 6, 1};
        for (int what = 0; what <= 10; what++) {
            due.is("count(" + what + ")", x.count(what), want[what]);
        }
        due.is("count(11)", x.count(11), AgingStamps.OUTSIDE);
        due.is("count(-1)", x.count(-1), AgingStamps.OUTSIDE);
        AgingStamps y = Due.album("AS500L11L92L92");
        y.stick(0, 2);
        y.send(2);
        y.damp();
        Due.weeks(y, 9);
        due.is("dead letters", y.count(8), 4);
        due.is("come letters", y.count(7), 0);
        due.is("nobody alive", y.count(5), 0);
    }
}
