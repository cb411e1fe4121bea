/** Promises 18 to 20: hops, groups, rangeNeeded. */
public final class RadioTest {
    private static final Check CHECK = new Check();
    private static final Scene SCENE = new Scene(CHECK);
    // Three in a row, each two places from the next, and one far away.
    private static final String ROW = "C05a000002a020002a040022a111117";

    public static void main(String[] args) {
        hops();
        groups();
        rangeNeeded();
        longRow();
        CHECK.end();
    }

    private static void hops() {
        ClaimedTasks x = Scene.loaded(ROW);
        int[][] want = {{0, 1, 2, -9}, {1, 0, 1, -9}, {2, 1, 0, -9}, {-9, -9, -9, 0}};
        for (int a = 0; a < 4; a++) {
            for (int b = 0; b < 4; b++) {
                int from = a;
                int to = b;
                SCENE.asked(x, "hops " + a + " " + b, () -> x.hops(from, to), want[a][b]);
            }
        }
        x.toggle(1);
        CHECK.due("the one between is off", x.hops(0, 2), -9);
        CHECK.due("to one that is off", x.hops(0, 1), -9);
        CHECK.due("from one that is off", x.hops(1, 0), -9);
        CHECK.due("from one that is off to itself", x.hops(1, 1), 0);
        x.toggle(1);
        x.setRange(0, 4);
        CHECK.due("both ranges reach", x.hops(0, 2), 1);
        x.setRange(2, 3);
        CHECK.due("only one range reaches", x.hops(0, 2), 2);
        for (int bad : new int[] {-1, 4, Integer.MIN_VALUE, Integer.MAX_VALUE}) {
            SCENE.refused(x, "hops from " + bad, () -> x.hops(bad, 0), IndexOutOfBoundsException.class);
            SCENE.refused(x, "hops to " + bad, () -> x.hops(0, bad), IndexOutOfBoundsException.class);
            SCENE.refused(x, "hops in " + bad, () -> x.hops(bad, bad), IndexOutOfBoundsException.class);
        }
    }

    private static void groups() {
        ClaimedTasks x = Scene.loaded(ROW);
        SCENE.asked(x, "groups", () -> x.groups(), 2);
        x.toggle(1);
        CHECK.due("the one between is off", x.groups(), 3);
        x.toggle(3);
        CHECK.due("the far one is off", x.groups(), 2);
        x.toggle(0);
        CHECK.due("one is on", x.groups(), 1);
        x.toggle(2);
        CHECK.due("none is on", x.groups(), 0);
        CHECK.due("all apart", Scene.loaded("C05a000000a010000a020000a030000a040000a050000").groups(), 6);
        CHECK.due("all in one place", Scene.loaded("C05a000000a000000a000000").groups(), 1);
        CHECK.due("joined by the last", Scene.loaded("C05a000001a020001a010001").groups(), 1);
    }

    private static void rangeNeeded() {
        ClaimedTasks x = Scene.loaded(ROW);
        SCENE.asked(x, "rangeNeeded", () -> x.rangeNeeded(), 18);
        x.toggle(3);
        CHECK.due("without the far one", x.rangeNeeded(), 2);
        x.toggle(1);
        CHECK.due("without the one between", x.rangeNeeded(), 4);
        x.toggle(0);
        CHECK.due("one is on", x.rangeNeeded(), 0);
        x.toggle(2);
        CHECK.due("none is on", x.rangeNeeded(), 0);
        CHECK.due("corner to corner", Scene.loaded("C05a000000a111100").rangeNeeded(), 22);
        CHECK.due("one short of it", Scene.loaded("C05a000100a111100").rangeNeeded(), 21);
        CHECK.due("the same place", Scene.loaded("C05a050500a050500").rangeNeeded(), 0);
    }

    private static void longRow() {
        ClaimedTasks x = Scene.loaded("C05a000001a050001a010001a040001a020001a030001");
        CHECK.due("five hops", x.hops(0, 1), 5);
        CHECK.due("and back", x.hops(1, 0), 5);
        CHECK.due("four hops", x.hops(0, 3), 4);
        CHECK.due("one group", x.groups(), 1);
        CHECK.due("range 1", x.rangeNeeded(), 1);
        x.toggle(4);
        CHECK.due("cut", x.hops(0, 1), -9);
        CHECK.due("two groups", x.groups(), 2);
        CHECK.due("range 2", x.rangeNeeded(), 2);
    }
}
