/** Promises 1 to 7: a new object, write, wipe, fault, album, stamp, letter. */
public final class AlbumTest {
    private static final Due due = new Due();

    public static void main(String[] args) {
        newObject();
        writing();
        faults();
        making();
        stamps();
        letters();
        due.end();
    }

    private static void newObject() {
        AgingStamps x = new AgingStamps();
        for (int what = 0; what <= 10; what++) {
            due.is("new: count(" + what + ")", x.count(what), 0);
        }
        due.is("new: stamp", x.stamp(0, 0), AgingStamps.UNKNOWN);
        due.is("new: letter", x.letter(0, 0), AgingStamps.UNKNOWN);
        due.is("new: undo", x.undo(), AgingStamps.STATE);
        due.is("new: again", x.again(0), AgingStamps.STATE);
        due.is("new: seed", x.seed(5), 0);
    }

    private static void writing() {
        AgingStamps x = new AgingStamps();
        due.is("write(-1)", x.write(-1), AgingStamps.OUTSIDE);
        due.is("write(256)", x.write(256), AgingStamps.OUTSIDE);
        due.is("write(min)", x.write(Integer.MIN_VALUE), AgingStamps.OUTSIDE);
        due.is("write(255)", x.write(255), 1);
        due.is("write(0)", x.write(0), 2);
        for (int i = 3; i <= 48; i++) {
            due.is("write to " + i, x.write('A'), i);
        }
        due.is("write when full", x.write('A'), AgingStamps.FULL);
        due.is("write 256 when full", x.write(256), AgingStamps.OUTSIDE);
        due.is("count(0)", x.count(0), 48);
        due.is("wipe", x.wipe(), 48);
        due.is("wipe again", x.wipe(), 0);
        due.is("write after wipe", x.write('A'), 1);
    }

    private static void fault(String text, int want) {
        AgingStamps x = new AgingStamps();
        Due.text(x, text);
        due.is("fault of " + text, x.fault(), want);
        due.is("album of " + text, x.album() < 0 ? 1 : 0, want == AgingStamps.NONE ? 0 : 1);
    }

    private static void faults() {
        int none = AgingStamps.NONE;
        fault("", 0);
        fault("a", 0);
        fault("S000", 0);
        fault("A", none);
        fault("AA", 1);
        fault("As", 1);
        fault("A0", 1);
        fault("AS", 2);
        fault("AS0", 3);
        fault("AS00", 4);
        fault("AS000", none);
        fault("AS993", none);
        fault("ASx00", 2);
        fault("AS:00", 2);
        fault("AS/00", 2);
        fault("AS0x0", 3);
        fault("AS004", 4);
        fault("AS00S", 4);
        fault("AS0000", 5);
        fault("AL", 2);
        fault("AL1", 3);
        fault("AL11", none);
        fault("AL99", none);
        fault("AL01", 2);
        fault("AL10", 3);
        fault("AL1x", 3);
        fault("AL110", 4);
        fault("AL11L11L11L11", none);
        fault("AL11L11L11L11L11", 13);
        fault("AS000S000S000S000S000", none);
        fault("AS000S000S000S000S000S000", 21);
        fault("AJ01S000S000", 1);
        fault("AS000J", 5);
        fault("AS000S000J", 10);
        fault("AS000S000J2", 10);
        fault("AS000S000J0", 11);
        fault("AS000S000J00", 11);
        fault("AS000S000J02", 11);
        fault("AS000S000J01", none);
        fault("AS000S000J10", none);
        fault("AS000S000J10J", 12);
        fault("AS000S000J01S000J", 17);
        fault("AS000S000J01S000J01", 18);
        fault("AS000S000J01S000J10", 18);
        fault("AS000S000J01S000J02J0", 20);
        fault("AS000S000J01S000J02J20", 21);
        fault("AS000S000J01S000J02J21", none);
        fault("AS000S000J01S000J02J21J", 22);
        String five = "AS000S000S000S000S000";
        fault(five + "J01J02J03J04J12J13J14J23J24", none);
        fault(five + "L11J01J02J03J04J12J13J14J2", 47);
        fault(five + "L11J01J02J03J04J12J13J14J0", 46);
        // The limit of 48 letters is set aside: this one is only not at its end.
        String full = "AS000S000S000S000J01J02J03J12J13J23L11L11L11L11S";
        due.is("length of a full text", full.length(), 48);
        fault(full, 48);
    }

    private static void making() {
        AgingStamps x = Due.album("AS120L34S453");
        due.is("album again", x.album(), 21);
        due.is("text stays", x.count(0), 12);
        x.see(1, 5, 1);
        x.seed(77);
        x.week();
        x.damp();
        x.stick(0, 0);
        x.keep(0);
        Due.text(x, "AS12");
        due.is("album with a fault", x.album(), AgingStamps.STATE);
        due.is("week stays", x.count(3), 1);
        due.is("acts stay", x.count(9), 3);
        Due.text(x, "AS120L34");
        due.is("album anew", x.album(), 11);
        due.is("week", x.count(3), 0);
        due.is("dry", x.count(4), 0);
        due.is("acts", x.count(9), 0);
        due.is("undo", x.undo(), AgingStamps.STATE);
        due.is("kept is gone", x.again(0), AgingStamps.STATE);
        due.is("seen stays", x.count(10), 1);
        due.is("stuck nowhere", x.stamp(0, 6), AgingStamps.NONE);
        due.is("health", x.stamp(0, 1), 2);
        due.is("seed stays", x.seed(0), 77);
        Due.text(x, "A");
        due.is("bare album", x.album(), 0);
    }

    private static void stamps() {
        // Kinds by number; the ages are told in tens of weeks.
        AgingStamps x = Due.album("AS390S981S972S803S902J02J21J34L11");
        int[][] want = {
            {30, 9, 0, 87, 3, 1, -9, 4},
            {90, 8, 1, 94, 1, 1, -9, 4},
            {90, 7, 2, 96, 9, 1, -9, 3},
            {80, 0, 3, 60, 0, 0, -9, 16},
            {90, 0, 2, 75, 9, 0, -9, 8}};
        for (int s = 0; s < 5; s++) {
            for (int what = 0; what <= 7; what++) {
                due.is("stamp(" + s + ", " + what + ")", x.stamp(s, what), want[s][what]);
            }
        }
        x.stick(0, 0);
        due.is("on a letter", x.stamp(0, 6), 0);
        due.is("stamp(5, 0)", x.stamp(5, 0), AgingStamps.UNKNOWN);
        due.is("stamp(-1, 9)", x.stamp(-1, 9), AgingStamps.UNKNOWN);
        due.is("stamp(0, 8)", x.stamp(0, 8), AgingStamps.OUTSIDE);
        due.is("stamp(0, -1)", x.stamp(0, -1), AgingStamps.OUTSIDE);
        AgingStamps rates = Due.album("AS100S200S690S192S792");
        int[] due4 = {2, 3, 5, 3, 9};
        for (int s = 0; s < 5; s++) {
            due.is("rate of " + s, rates.stamp(s, 4), due4[s]);
        }
        AgingStamps edge = Due.album("AS600S610");
        due.is("alive only below its span", edge.stamp(0, 5), 0);
        due.is("alive below its span", edge.stamp(1, 5), 1);
    }

    private static void letters() {
        AgingStamps x = Due.album("AS690S392L29L15S610");
        due.is("left", x.letter(0, 0), 2);
        due.is("cost", x.letter(0, 1), 9);
        due.is("stamps", x.letter(0, 2), 0);
        due.is("good", x.letter(0, 3), 0);
        due.is("fate", x.letter(0, 4), 0);
        x.stick(0, 0);
        x.stick(1, 0);
        due.is("stamps", x.letter(0, 2), 3);
        due.is("good", x.letter(0, 3), 10);
        x.send(0);
        due.is("left when sent", x.letter(0, 0), 2);
        due.is("fate when sent", x.letter(0, 4), 1);
        x.week();
        due.is("left after a week", x.letter(0, 0), 1);
        x.week();
        due.is("left when come", x.letter(0, 0), 0);
        due.is("fate when come", x.letter(0, 4), 2);
        due.is("stamps stay on it", x.letter(0, 2), 3);
        x.week();
        due.is("left later", x.letter(0, 0), 0);
        due.is("the other is not sent", x.letter(1, 0), 1);
        due.is("letter(2, 0)", x.letter(2, 0), AgingStamps.UNKNOWN);
        due.is("letter(-1, 5)", x.letter(-1, 5), AgingStamps.UNKNOWN);
        due.is("letter(0, 5)", x.letter(0, 5), AgingStamps.OUTSIDE);
        due.is("letter(0, -1)", x.letter(0, -1), AgingStamps.OUTSIDE);
        AgingStamps dead = Due.album("AS610L29");
        dead.stick(0, 0);
        due.is("a dead one is on it", dead.letter(0, 2), 1);
        due.is("a dead one is good for nothing", dead.letter(0, 3), 0);
    }
}
