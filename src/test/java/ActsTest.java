/** Promises 8 to 13: week, stick, send, part, damp, undo. */
public final class ActsTest {
    private static final Due due = new Due();

    public static void main(String[] args) {
        weeks();
        widows();
        journeys();
        sticking();
        sending();
        parting();
        damping();
        undoing();
        longRow();
        due.end();
    }

    private static void weeks() {
        AgingStamps x = Due.album("AS500S600S590S003");
        due.is("week", x.week(), 3);
        due.is("older", x.stamp(0, 0), 51);
        due.is("a dead one is not older", x.stamp(1, 0), 60);
        due.is("a forged one is not older", x.stamp(3, 0), 0);
        due.is("the week", x.count(3), 1);
        Due.weeks(x, 8);
        due.is("week 10", x.week(), 2);
        due.is("dead at its span", x.stamp(0, 0), 60);
    }

    private static void widows() {
        // 1 is joined to two dead ones, and is older by 2 for both together.
        AgingStamps x = Due.album("AS600S000S900S003J01J12J30S390");
        due.is("widows", x.count(6), 10);
        x.week();
        due.is("once each week", x.stamp(1, 0), 3);
        due.is("a forged widow is never older", x.stamp(3, 0), 0);
        due.is("not joined", x.stamp(4, 0), 31);
        // 0 dies of this week, and so 1 is a widow in it already.
        AgingStamps y = Due.album("AS500S000J01");
        Due.weeks(y, 9);
        due.is("no widow yet", y.stamp(1, 0), 9);
        y.week();
        due.is("a widow at once", y.stamp(1, 0), 12);
        // 1 dies of being a widow: 2 is one only in the week after.
        AgingStamps z = Due.album("AS600S500S000J01J12");
        due.is("widow", z.count(6), 2);
        Due.weeks(z, 3);
        due.is("age of 1", z.stamp(1, 0), 59);
        z.undo();
        z.undo();
        z.undo();
        z.damp();
        z.week();
        z.damp();
        z.week();
        z.week();
        due.is("age of 1", z.stamp(1, 0), 60);
        due.is("dead of grief", z.stamp(1, 5), 0);
        due.is("2 is as old as its weeks", z.stamp(2, 0), 4);
        due.is("2 is a widow then", z.count(6), 4);
        z.week();
        due.is("and older by 3 next week", z.stamp(2, 0), 7);
    }

    private static void journeys() {
        AgingStamps x = Due.album("AS500S500L92L12L11");
        x.stick(0, 0);
        x.send(0);
        x.week();
        x.stick(1, 2);
        x.send(2);
        x.week();
        due.is("come", x.count(7), 4);
        Due.weeks(x, 6);
        due.is("on its way", x.letter(0, 0), 1);
        x.damp();
        due.is("none is alive", x.week(), 0);
        due.is("dead", x.letter(0, 4), 3);
        due.is("dead ones", x.count(8), 1);
        due.is("come stays come", x.letter(2, 4), 2);
        due.is("not sent", x.letter(1, 4), 0);
    }

    private static void sticking() {
        AgingStamps x = Due.album("AS010S000S610S600L19L19");
        due.is("stick", x.stick(0, 0), 1);
        due.is("health lost", x.stamp(0, 1), 0);
        due.is("span", x.stamp(0, 3), 60);
        due.is("stick a second", x.stick(1, 0), 2);
        due.is("no health to lose", x.stamp(1, 1), 0);
        due.is("stick on another letter", x.stick(0, 1), AgingStamps.STATE);
        due.is("stick again", x.stick(0, 0), AgingStamps.STATE);
        due.is("dead one", x.stick(3, 0), AgingStamps.STATE);
        due.is("it dies of it", x.stick(2, 1), 1);
        due.is("dead then", x.stamp(2, 5), 0);
        due.is("but stuck", x.letter(1, 2), 4);
        due.is("unknown stamp", x.stick(4, 0), AgingStamps.UNKNOWN);
        due.is("unknown stamp", x.stick(-1, 0), AgingStamps.UNKNOWN);
        due.is("unknown letter", x.stick(0, 2), AgingStamps.UNKNOWN);
        due.is("unknown letter", x.stick(0, -1), AgingStamps.UNKNOWN);
        due.is("acts", x.count(9), 3);
        AgingStamps y = Due.album("AS400S400L14");
        y.stick(0, 0);
        y.send(0);
        due.is("sent letter", y.stick(1, 0), AgingStamps.STATE);
        y.week();
        due.is("come letter", y.stick(1, 0), AgingStamps.STATE);
        due.is("stays stuck", y.stamp(0, 6), 0);
    }

    private static void sending() {
        AgingStamps x = Due.album("AS390S391L74L35L71");
        due.is("nothing on it", x.send(2), AgingStamps.STATE);
        x.stick(0, 0);
        due.is("good for 3 of 4", x.send(0), AgingStamps.STATE);
        x.stick(1, 0);
        due.is("good for 4 of 4", x.send(0), 7);
        due.is("sent", x.letter(0, 4), 1);
        due.is("sent twice", x.send(0), AgingStamps.STATE);
        due.is("unknown", x.send(3), AgingStamps.UNKNOWN);
        due.is("unknown", x.send(-1), AgingStamps.UNKNOWN);
        Due.weeks(x, 7);
        due.is("come", x.letter(0, 4), 2);
        due.is("sent and come", x.send(0), AgingStamps.STATE);
        AgingStamps y = Due.album("AS590L11");
        y.stick(0, 0);
        Due.weeks(y, 50);
        due.is("a dead one is good for nothing", y.send(0), AgingStamps.STATE);
        AgingStamps z = Due.album("AS003L11");
        z.stick(0, 0);
        due.is("a forged one is good for nothing", z.send(0), AgingStamps.STATE);
    }

    private static void parting() {
        AgingStamps x = Due.album("AS000S003S600S590J01J02J30");
        due.is("part", x.part(0, 1), 2);
        due.is("older", x.stamp(0, 0), 1);
        due.is("forged", x.stamp(1, 0), 0);
        due.is("joined", x.stamp(0, 7), 12);
        due.is("joined", x.stamp(1, 7), 0);
        due.is("part", x.part(2, 0), 0);
        due.is("each is older", x.stamp(2, 0), 61);
        due.is("each is older", x.stamp(0, 0), 2);
        due.is("not joined", x.part(0, 1), AgingStamps.STATE);
        due.is("itself", x.part(0, 0), AgingStamps.STATE);
        due.is("never joined", x.part(1, 2), AgingStamps.STATE);
        due.is("unknown", x.part(0, 4), AgingStamps.UNKNOWN);
        due.is("unknown", x.part(-1, 0), AgingStamps.UNKNOWN);
        due.is("unknown", x.part(0, Integer.MAX_VALUE), AgingStamps.UNKNOWN);
        due.is("acts", x.count(9), 2);
        due.is("part", x.part(3, 0), 0);
        due.is("none left", x.stamp(0, 7), 0);
    }

    private static void damping() {
        AgingStamps x = Due.album("AS000S003S600S001J02");
        due.is("damp", x.damp(), 1);
        due.is("count(4)", x.count(4), 1);
        x.week();
        due.is("one more, and a widow", x.stamp(0, 0), 4);
        due.is("a child too", x.stamp(3, 0), 2);
        due.is("forged", x.stamp(1, 0), 0);
        due.is("dry", x.damp(), 0);
        x.week();
        due.is("dry week", x.stamp(3, 0), 3);
    }

    private static void undoing() {
        AgingStamps x = Due.album("AS390S600J01L13");
        x.stick(0, 0);
        x.send(0);
        x.damp();
        x.week();
        x.part(0, 1);
        due.is("undo part", x.undo(), 4);
        due.is("joined", x.stamp(0, 7), 2);
        due.is("age", x.stamp(0, 0), 34);
        due.is("fate", x.letter(0, 4), 2);
        due.is("undo week", x.undo(), 3);
        due.is("age", x.stamp(0, 0), 30);
        due.is("fate", x.letter(0, 4), 1);
        due.is("left", x.letter(0, 0), 1);
        due.is("week", x.count(3), 0);
        due.is("damp", x.count(4), 1);
        due.is("undo damp", x.undo(), 2);
        due.is("damp", x.count(4), 0);
        due.is("undo send", x.undo(), 1);
        due.is("fate", x.letter(0, 4), 0);
        due.is("undo stick", x.undo(), 0);
        due.is("health", x.stamp(0, 1), 9);
        due.is("on", x.stamp(0, 6), AgingStamps.NONE);
        due.is("nothing to undo", x.undo(), AgingStamps.STATE);
        x.send(0);
        due.is("what is refused is no act", x.count(9), 0);
    }

    private static void longRow() {
        AgingStamps x = Due.album("AS000");
        for (int i = 1; i <= 20; i++) {
            x.week();
            due.is("acts after " + i, x.count(9), Math.min(i, 14));
        }
        for (int i = 13; i >= 0; i--) {
            due.is("undo to " + i, x.undo(), i);
            due.is("week at " + i, x.count(3), i + 6);
            due.is("age at " + i, x.stamp(0, 0), i + 6);
        }
        due.is("the first six are forgotten", x.undo(), AgingStamps.STATE);
    }
}
