/** The edges of promises 1 to 5, of ROWS, and of status() (42), a sentence each. */
public final class EdgesOfRowsTest {
    private static final int NONE = SoupRights.NONE, BAD = SoupRights.BAD, STATE = SoupRights.STATE;
    private static final int NULL = -1000011, PLACE = -1000012, KIND = -1000013, SIZE = -1000014, STORE = -1000015;
    private static final int MIN = Integer.MIN_VALUE, MAX = Integer.MAX_VALUE;
    private static final Check CHECK = new Check();

    public static void main(String[] args) {
        newObject();
        rowSizes();
        rowRefusals();
        rowInPlace();
        rowFound();
        setBits();
        setPlaces();
        setRefusals();
        setOneAlone();
        copyEnds();
        copyBeyond();
        copyWrapsAround();
        copyAsTheyWere();
        copyRefusals();
        copyLanes();
        copyFound();
        drop();
        statusOfEachCall();
        statusStays();
        CHECK.end("EdgesOfRowsTest");
    }

    private static void newObject() {
        CHECK.of("Promise 1, no HOUSE");
        SoupRights x = new SoupRights();
        for (int what = 0; what < 8; what++) {
            CHECK.due("count(" + what + ")", x.count(what), 0);
        }
        CHECK.due("kind(0)", x.kind(0), BAD);
        CHECK.due("right(0, 0)", x.right(0, 0), BAD);
        CHECK.due("heir(0, 0)", x.heir(0, 0), BAD);
        CHECK.due("claims()", x.claims(), STATE);
        CHECK.due("days(1)", x.days(1), STATE);
        CHECK.due("undo()", x.undo(), STATE);
        CHECK.due("image(0)", x.image(0), STATE);
        CHECK.due("image(1)", x.image(1), STATE);
        CHECK.due("restore(0)", x.restore(0), STATE);
        CHECK.due("restore(1)", x.restore(1), STATE);
        CHECK.due("fault()", x.fault(), 0);
        CHECK.due("status()", x.status(), 0);
        CHECK.due("trace(0)", x.trace(0), NONE);
        CHECK.of("Terms, ROWS are missing at first");
        for (int row = 0; row < 8; row++) {
            CHECK.due("drop(" + row + ")", x.drop(row), NULL);
        }
        CHECK.of("Promise 1, a new object has nothing of another one");
        String alone = Check.bare(new SoupRights());
        SoupRights other = Check.house("h5,0;n1,0,0;");
        other.row(0, 0, 1);
        other.feed('h');
        other.image(0);
        other.ask(0, 0);
        CHECK.same("all of it", Check.bare(new SoupRights()), alone);
    }

    private static void rowSizes() {
        SoupRights x = new SoupRights();
        CHECK.of("Promise 2, a ROW of 0 ITEMS");
        CHECK.due("row(0, 0, 0)", x.row(0, 0, 0), 0);
        CHECK.due("count(0), it is there", x.count(0), 1);
        CHECK.due("set(0, 0, 0)", x.set(0, 0, 0), PLACE);
        CHECK.due("drop(0)", x.drop(0), 0);
        CHECK.of("Promise 2, a ROW of 40 ITEMS");
        CHECK.due("row(7, 2, 40)", x.row(7, 2, 40), 40);
        CHECK.due("set(7, 39, 5)", x.set(7, 39, 5), 5);
        CHECK.due("set(7, 40, 5)", x.set(7, 40, 5), PLACE);
        CHECK.due("drop(7)", x.drop(7), 40);
        CHECK.of("Promise 2, of each ROW and each LANE");
        for (int row = 0; row < 8; row++) {
            for (int lane = 0; lane < 3; lane++) {
                CHECK.due("row(" + row + ", " + lane + ", " + (row + 1) + ")", x.row(row, lane, row + 1), row + 1);
            }
            CHECK.due("count(0)", x.count(0), row + 1);
        }
        for (int row = 0; row < 8; row++) {
            CHECK.due("drop(" + row + ")", x.drop(row), row + 1);
        }
        CHECK.of("Terms, ITEMS are 0 at first");
        x.row(3, 1, 40);
        for (int i = 0; i < 40; i++) {
            CHECK.same("ITEM " + i, Check.is(x, 3, i, 0), true);
        }
    }

    private static void rowRefusals() {
        SoupRights x = new SoupRights();
        CHECK.of("Promise 2, BAD: ROW");
        for (int row : new int[] {MIN, -1, 8, 256, MAX}) {
            CHECK.due("row(" + row + ", 0, 1)", x.row(row, 0, 1), BAD);
        }
        CHECK.of("Promise 2, BAD: LANE");
        for (int lane : new int[] {MIN, -1, 3, 256, MAX}) {
            CHECK.due("row(0, " + lane + ", 1)", x.row(0, lane, 1), BAD);
        }
        CHECK.of("Promise 2, BAD: n above 40");
        for (int n : new int[] {41, 256, 65536, MAX}) {
            CHECK.due("row(0, 0, " + n + ")", x.row(0, 0, n), BAD);
        }
        CHECK.of("Promise 2, SIZE: fewer than none");
        for (int n : new int[] {-1, -40, -41, MIN}) {
            CHECK.due("row(0, 0, " + n + ")", x.row(0, 0, n), SIZE);
        }
        CHECK.of("Promise 2, BAD ahead of SIZE");
        CHECK.due("row(8, 0, -1)", x.row(8, 0, -1), BAD);
        CHECK.due("row(-1, 0, MIN)", x.row(-1, 0, MIN), BAD);
        CHECK.due("row(0, 3, -1)", x.row(0, 3, -1), BAD);
        CHECK.due("row(0, -1, MIN)", x.row(0, -1, MIN), BAD);
        CHECK.due("no ROW is there", x.count(0), 0);
    }

    private static void rowInPlace() {
        SoupRights x = new SoupRights();
        CHECK.of("Promise 2, in place of what is there");
        Check.row(x, 2, 0, 9, 8, 7);
        CHECK.due("a shorter one", x.row(2, 1, 2), 2);
        CHECK.due("still one ROW", x.count(0), 1);
        CHECK.due("set(2, 2, 1)", x.set(2, 2, 1), PLACE);
        CHECK.due("of the other LANE", x.set(2, 1, 300), 300);
        CHECK.same("ITEM 0 is 0 again", Check.is(x, 2, 0, 0), true);
        CHECK.due("a longer one", x.row(2, 0, 4), 4);
        for (int i = 0; i < 4; i++) {
            CHECK.same("ITEM " + i + " is 0 again", Check.is(x, 2, i, 0), true);
        }
        CHECK.due("of that LANE", x.set(2, 3, 300), 44);
        CHECK.due("an empty one", x.row(2, 2, 0), 0);
        CHECK.due("drop(2)", x.drop(2), 0);
    }

    private static void rowFound() {
        SoupRights x = new SoupRights();
        CHECK.of("Promise 2, what is refused or found changes nothing");
        Check.row(x, 2, 0, 9, 8, 7);
        CHECK.due("row(2, 1, -1)", x.row(2, 1, -1), SIZE);
        CHECK.due("row(2, 1, 41)", x.row(2, 1, 41), BAD);
        CHECK.due("row(2, 3, 1)", x.row(2, 3, 1), BAD);
        CHECK.due("row(3, 1, -1)", x.row(3, 1, -1), SIZE);
        CHECK.due("one ROW", x.count(0), 1);
        CHECK.same("its ITEMS", Check.items(x, 2), "0 of 3: 9 8 7 lane -56");
        CHECK.due("drop(3)", x.drop(3), NULL);
    }

    private static void setBits() {
        SoupRights x = new SoupRights();
        for (int lane = 0; lane < 3; lane++) {
            x.row(lane, lane, 1);
        }
        CHECK.of("Promise 3, the lowest bits of a byte");
        int[][] bytes = {{0, 0}, {127, 127}, {128, -128}, {255, -1}, {256, 0}, {-1, -1}, {-128, -128}, {-129, 127},
            {383, 127}, {384, -128}, {MIN, 0}, {MAX, -1}, {MIN + 128, -128}, {MAX - 128, 127}};
        for (int[] each : bytes) {
            CHECK.due("set(0, 0, " + each[0] + ")", x.set(0, 0, each[0]), each[1]);
        }
        CHECK.of("Promise 3, the lowest bits of a short");
        int[][] shorts = {{0, 0}, {128, 128}, {32767, 32767}, {32768, -32768}, {65535, -1}, {65536, 0}, {-1, -1},
            {-32768, -32768}, {-32769, 32767}, {98303, 32767}, {98304, -32768}, {MIN, 0}, {MAX, -1}};
        for (int[] each : shorts) {
            CHECK.due("set(1, 0, " + each[0] + ")", x.set(1, 0, each[0]), each[1]);
        }
        CHECK.of("Promise 3, all bits of an int");
        for (int v : new int[] {0, 1, -1, 128, 32768, 65536, -32769, MIN, MIN + 1, MAX, MAX - 1}) {
            CHECK.due("set(2, 0, " + v + ")", x.set(2, 0, v), v);
        }
    }

    private static void setPlaces() {
        SoupRights x = new SoupRights();
        CHECK.of("Promise 3, PLACE: no such place of a ROW");
        for (int size : new int[] {0, 1, 2, 39, 40}) {
            x.row(4, 2, 40);
            x.row(4, 2, size);
            CHECK.due("set(4, 0, 7) of " + size, x.set(4, 0, 7), size == 0 ? PLACE : 7);
            CHECK.due("set(4, size - 1, 7) of " + size, x.set(4, size - 1, 7), size == 0 ? PLACE : 7);
            for (int i : new int[] {MIN, MIN + 1, -256, -1, size, size + 1, 40, 256, MAX - 1, MAX}) {
                CHECK.due("set(4, " + i + ", 7) of " + size, x.set(4, i, 7), PLACE);
            }
        }
    }

    private static void setRefusals() {
        SoupRights x = new SoupRights();
        x.row(0, 0, 1);
        CHECK.of("Promise 3, BAD: ROW");
        for (int row : new int[] {MIN, -1, 8, 256, MAX}) {
            CHECK.due("set(" + row + ", 0, 1)", x.set(row, 0, 1), BAD);
            CHECK.due("set(" + row + ", -1, 1), ahead of PLACE", x.set(row, -1, 1), BAD);
        }
        CHECK.of("Promise 3, NULL: a ROW that is missing, ahead of PLACE");
        for (int row = 1; row < 8; row++) {
            CHECK.due("set(" + row + ", 0, 1)", x.set(row, 0, 1), NULL);
            CHECK.due("set(" + row + ", -1, 1)", x.set(row, -1, 1), NULL);
            CHECK.due("set(" + row + ", MAX, 1)", x.set(row, MAX, 1), NULL);
        }
    }

    private static void setOneAlone() {
        SoupRights x = new SoupRights();
        CHECK.of("Promise 3, ITEM i and no other");
        Check.row(x, 5, 1, 1, 2, 3);
        Check.row(x, 6, 1, 1, 2, 3);
        x.set(5, 1, 9);
        x.set(5, 3, 8);
        x.set(5, -1, 8);
        CHECK.same("ROW 5", Check.items(x, 5), "0 of 3: 1 9 3 lane 200");
        CHECK.same("ROW 6", Check.items(x, 6), "0 of 3: 1 2 3 lane 200");
    }

    private static void copyEnds() {
        SoupRights x = new SoupRights();
        CHECK.of("Promise 4, none of an empty ROW");
        x.row(0, 2, 0);
        x.row(1, 2, 0);
        CHECK.due("copy(0, 0, 1, 0, 0)", x.copy(0, 0, 1, 0, 0), 0);
        CHECK.due("copy(0, 0, 0, 0, 0)", x.copy(0, 0, 0, 0, 0), 0);
        CHECK.due("copy(0, 0, 1, 0, 1)", x.copy(0, 0, 1, 0, 1), PLACE);
        CHECK.due("copy(0, 1, 1, 0, 0)", x.copy(0, 1, 1, 0, 0), PLACE);
        CHECK.due("copy(0, 0, 1, 1, 0)", x.copy(0, 0, 1, 1, 0), PLACE);
        CHECK.of("Promise 4, all 40 ITEMS");
        x.row(0, 2, 40);
        x.row(1, 2, 40);
        for (int i = 0; i < 40; i++) {
            x.set(0, i, i + 1);
        }
        CHECK.due("copy(0, 0, 1, 0, 40)", x.copy(0, 0, 1, 0, 40), 40);
        for (int i = 0; i < 40; i++) {
            CHECK.same("ITEM " + i, Check.is(x, 1, i, i + 1), true);
        }
        CHECK.due("copy(0, 0, 1, 0, 41)", x.copy(0, 0, 1, 0, 41), PLACE);
        CHECK.of("Promise 4, the last ITEM to the first, the first to the last");
        CHECK.due("copy(0, 39, 1, 0, 1)", x.copy(0, 39, 1, 0, 1), 1);
        CHECK.same("ITEM 0", Check.is(x, 1, 0, 40), true);
        CHECK.same("ITEM 1", Check.is(x, 1, 1, 2), true);
        CHECK.due("copy(0, 0, 1, 39, 1)", x.copy(0, 0, 1, 39, 1), 1);
        CHECK.same("ITEM 39", Check.is(x, 1, 39, 1), true);
        CHECK.same("ITEM 38", Check.is(x, 1, 38, 39), true);
        CHECK.of("Promise 4, none at an end");
        CHECK.due("copy(0, 40, 1, 40, 0)", x.copy(0, 40, 1, 40, 0), 0);
        CHECK.due("copy(0, 41, 1, 40, 0)", x.copy(0, 41, 1, 40, 0), PLACE);
        CHECK.due("copy(0, 40, 1, 41, 0)", x.copy(0, 40, 1, 41, 0), PLACE);
    }

    private static void copyBeyond() {
        SoupRights x = new SoupRights();
        x.row(0, 0, 3);
        x.row(1, 0, 5);
        CHECK.of("Promise 4, PLACE: beyond an end of a");
        CHECK.due("copy(0, 0, 1, 0, 3)", x.copy(0, 0, 1, 0, 3), 3);
        CHECK.due("copy(0, 0, 1, 0, 4)", x.copy(0, 0, 1, 0, 4), PLACE);
        CHECK.due("copy(0, 2, 1, 0, 1)", x.copy(0, 2, 1, 0, 1), 1);
        CHECK.due("copy(0, 2, 1, 0, 2)", x.copy(0, 2, 1, 0, 2), PLACE);
        CHECK.due("copy(0, 3, 1, 0, 1)", x.copy(0, 3, 1, 0, 1), PLACE);
        CHECK.due("copy(0, -1, 1, 0, 1)", x.copy(0, -1, 1, 0, 1), PLACE);
        CHECK.due("copy(0, -1, 1, 0, 0)", x.copy(0, -1, 1, 0, 0), PLACE);
        CHECK.of("Promise 4, PLACE: beyond an end of b");
        CHECK.due("copy(1, 0, 0, 0, 3)", x.copy(1, 0, 0, 0, 3), 3);
        CHECK.due("copy(1, 0, 0, 0, 4)", x.copy(1, 0, 0, 0, 4), PLACE);
        CHECK.due("copy(1, 0, 0, 2, 1)", x.copy(1, 0, 0, 2, 1), 1);
        CHECK.due("copy(1, 0, 0, 2, 2)", x.copy(1, 0, 0, 2, 2), PLACE);
        CHECK.due("copy(1, 0, 0, 3, 1)", x.copy(1, 0, 0, 3, 1), PLACE);
        CHECK.due("copy(1, 0, 0, -1, 1)", x.copy(1, 0, 0, -1, 1), PLACE);
        CHECK.due("copy(1, 0, 0, -1, 0)", x.copy(1, 0, 0, -1, 0), PLACE);
        CHECK.of("Promise 4, PLACE: n below 0");
        CHECK.due("copy(0, 0, 1, 0, -1)", x.copy(0, 0, 1, 0, -1), PLACE);
        CHECK.due("copy(0, 3, 1, 5, -3)", x.copy(0, 3, 1, 5, -3), PLACE);
        CHECK.due("copy(0, 0, 1, 0, MIN)", x.copy(0, 0, 1, 0, MIN), PLACE);
    }

    private static void copyWrapsAround() {
        SoupRights x = new SoupRights();
        CHECK.of("Promise 4, PLACE, though a sum of i, j and n would wrap around");
        x.row(0, 2, 40);
        x.row(1, 2, 40);
        int[] far = {MIN, MIN + 1, MIN + 40, -41, -40, MAX - 40, MAX - 1, MAX};
        for (int a : far) {
            CHECK.due("copy(0, " + a + ", 1, 0, 1)", x.copy(0, a, 1, 0, 1), PLACE);
            CHECK.due("copy(0, 0, 1, " + a + ", 1)", x.copy(0, 0, 1, a, 1), PLACE);
            CHECK.due("copy(0, 1, 1, 1, " + a + ")", x.copy(0, 1, 1, 1, a), PLACE);
            for (int b : far) {
                CHECK.due("copy(0, " + a + ", 1, 0, " + b + ")", x.copy(0, a, 1, 0, b), PLACE);
                CHECK.due("copy(0, 0, 1, " + a + ", " + b + ")", x.copy(0, 0, 1, a, b), PLACE);
                CHECK.due("copy(0, " + a + ", 1, " + b + ", 0)", x.copy(0, a, 1, b, 0), PLACE);
            }
        }
    }

    private static void copyAsTheyWere() {
        CHECK.of("Promise 4, as they were ahead");
        SoupRights x = new SoupRights();
        Check.row(x, 0, 1, 1, 2, 3, 4, 5);
        CHECK.due("copy(0, 0, 0, 1, 4)", x.copy(0, 0, 0, 1, 4), 4);
        CHECK.same("to behind", Check.items(x, 0), "0 of 5: 1 1 2 3 4 lane 200");
        Check.row(x, 0, 1, 1, 2, 3, 4, 5);
        CHECK.due("copy(0, 1, 0, 0, 4)", x.copy(0, 1, 0, 0, 4), 4);
        CHECK.same("to ahead", Check.items(x, 0), "0 of 5: 2 3 4 5 5 lane 200");
        Check.row(x, 0, 1, 1, 2, 3, 4, 5);
        CHECK.due("copy(0, 0, 0, 0, 5)", x.copy(0, 0, 0, 0, 5), 5);
        CHECK.same("onto themselves", Check.items(x, 0), "0 of 5: 1 2 3 4 5 lane 200");
        Check.row(x, 0, 1, 1, 2, 3, 4, 5);
        Check.row(x, 1, 1, 9, 9, 9);
        x.copy(0, 1, 1, 0, 2);
        x.set(0, 1, 7);
        CHECK.same("a keeps what it has", Check.items(x, 0), "0 of 5: 1 7 3 4 5 lane 200");
        CHECK.same("b has no more than came", Check.items(x, 1), "0 of 3: 2 3 9 lane 200");
    }

    private static void copyRefusals() {
        SoupRights x = new SoupRights();
        x.row(0, 0, 3);
        x.row(1, 1, 3);
        CHECK.of("Promise 4, BAD: ROWS, ahead of all that is found");
        for (int row : new int[] {MIN, -1, 8, MAX}) {
            CHECK.due("copy(" + row + ", 0, 0, 0, 1)", x.copy(row, 0, 0, 0, 1), BAD);
            CHECK.due("copy(0, 0, " + row + ", 0, 1)", x.copy(0, 0, row, 0, 1), BAD);
            CHECK.due("copy(" + row + ", 0, 2, 0, 1)", x.copy(row, 0, 2, 0, 1), BAD);
            CHECK.due("copy(2, 0, " + row + ", 0, 1)", x.copy(2, 0, row, 0, 1), BAD);
            CHECK.due("copy(" + row + ", -1, 0, -1, -1)", x.copy(row, -1, 0, -1, -1), BAD);
        }
        CHECK.of("Promise 4, NULL ahead of STORE and PLACE");
        CHECK.due("copy(2, 0, 0, 0, 1)", x.copy(2, 0, 0, 0, 1), NULL);
        CHECK.due("copy(0, 0, 2, 0, 1)", x.copy(0, 0, 2, 0, 1), NULL);
        CHECK.due("copy(1, 0, 2, 0, 1)", x.copy(1, 0, 2, 0, 1), NULL);
        CHECK.due("copy(2, 0, 2, 0, 0)", x.copy(2, 0, 2, 0, 0), NULL);
        CHECK.due("copy(2, 0, 3, 0, 0)", x.copy(2, 0, 3, 0, 0), NULL);
        CHECK.due("copy(2, -1, 1, 9, -1)", x.copy(2, -1, 1, 9, -1), NULL);
        CHECK.due("copy(1, 9, 2, -1, MAX)", x.copy(1, 9, 2, -1, MAX), NULL);
        x.row(2, 1, 3);
        x.drop(2);
        CHECK.due("copy(0, 0, 2, 0, 1) of one that is gone", x.copy(0, 0, 2, 0, 1), NULL);
        CHECK.of("Promise 4, STORE ahead of PLACE");
        CHECK.due("copy(0, -1, 1, 0, 1)", x.copy(0, -1, 1, 0, 1), STORE);
        CHECK.due("copy(0, 0, 1, 4, 1)", x.copy(0, 0, 1, 4, 1), STORE);
        CHECK.due("copy(1, 0, 0, 0, -1)", x.copy(1, 0, 0, 0, -1), STORE);
    }

    private static void copyLanes() {
        SoupRights x = new SoupRights();
        CHECK.of("Promise 4, STORE: ROWS of two LANES");
        for (int a = 0; a < 3; a++) {
            for (int b = 0; b < 3; b++) {
                x.row(0, a, 2);
                x.row(1, b, 2);
                CHECK.due("copy(0, 0, 1, 0, 2) of LANES " + a + ", " + b, x.copy(0, 0, 1, 0, 2), a == b ? 2 : STORE);
                CHECK.due("copy(0, 0, 1, 0, 0) of LANES " + a + ", " + b, x.copy(0, 0, 1, 0, 0), a == b ? 0 : STORE);
                x.row(0, a, 0);
                x.row(1, b, 0);
                CHECK.due("copy of empty ROWS of LANES " + a + ", " + b, x.copy(0, 0, 1, 0, 0), a == b ? 0 : STORE);
            }
        }
    }

    private static void copyFound() {
        CHECK.of("Promise 4, what is found changes nothing");
        SoupRights x = new SoupRights();
        Check.row(x, 0, 1, 1, 2, 3);
        Check.row(x, 1, 1, 7, 8);
        Check.row(x, 2, 0, 5, 6);
        CHECK.due("copy(0, 0, 1, 0, 3)", x.copy(0, 0, 1, 0, 3), PLACE);
        CHECK.due("copy(1, 0, 0, 2, 2)", x.copy(1, 0, 0, 2, 2), PLACE);
        CHECK.due("copy(0, 0, 2, 0, 2)", x.copy(0, 0, 2, 0, 2), STORE);
        CHECK.due("copy(0, 0, 3, 0, 2)", x.copy(0, 0, 3, 0, 2), NULL);
        CHECK.due("copy(0, 0, 8, 0, 2)", x.copy(0, 0, 8, 0, 2), BAD);
        CHECK.due("three ROWS", x.count(0), 3);
        CHECK.same("ROW 0", Check.items(x, 0), "0 of 3: 1 2 3 lane 200");
        CHECK.same("ROW 1", Check.items(x, 1), "0 of 2: 7 8 lane 200");
        CHECK.same("ROW 2", Check.items(x, 2), "0 of 2: 5 6 lane -56");
    }

    private static void drop() {
        SoupRights x = new SoupRights();
        CHECK.of("Promise 5, how many ITEMS it had");
        for (int row = 0; row < 8; row++) {
            x.row(row, row % 3, row * 5 + row / 7 * 5);
        }
        for (int row = 7; row >= 0; row--) {
            CHECK.due("drop(" + row + ")", x.drop(row), row * 5 + row / 7 * 5);
            CHECK.due("the others stay", x.count(0), row);
        }
        CHECK.of("Promise 5, NULL: it is missing from then on");
        CHECK.due("drop(0)", x.drop(0), NULL);
        CHECK.due("drop(7)", x.drop(7), NULL);
        CHECK.due("set(7, 0, 0)", x.set(7, 0, 0), NULL);
        CHECK.due("copy(7, 0, 7, 0, 0)", x.copy(7, 0, 7, 0, 0), NULL);
        CHECK.of("Promise 5, BAD");
        for (int row : new int[] {MIN, -1, 8, 256, MAX}) {
            CHECK.due("drop(" + row + ")", x.drop(row), BAD);
        }
        CHECK.of("Promise 5, a ROW made behind it has 0 alone");
        Check.row(x, 4, 2, 7, 7, 7);
        x.drop(4);
        x.row(4, 2, 3);
        CHECK.same("ROW 4", Check.items(x, 4), "0 of 3: 0 0 0 lane 65736");
    }

    /** Two HEIRS, a RIGHT; ROW 0 of 3 ITEMS, ROW 1 of another LANE. */
    private static SoupRights standing() {
        SoupRights x = Check.house("h0,9;h5,0;n8,1,0;");
        x.row(0, 0, 3);
        x.row(1, 1, 3);
        return x;
    }

    private static void statusOfEachCall() {
        CHECK.of("Promise 42, the number of the FINDING of each call");
        for (int before = 0; before < 2; before++) {
            SoupRights x = standing();
            found(x, before, "row(0, 0, -1)", x.row(0, 0, -1), SIZE);
            found(x, before, "set(2, 0, 0)", x.set(2, 0, 0), NULL);
            found(x, before, "set(0, 3, 0)", x.set(0, 3, 0), PLACE);
            found(x, before, "copy(0, 0, 2, 0, 0)", x.copy(0, 0, 2, 0, 0), NULL);
            found(x, before, "copy(0, 0, 1, 0, 0)", x.copy(0, 0, 1, 0, 0), STORE);
            found(x, before, "copy(0, 0, 0, 0, 4)", x.copy(0, 0, 0, 0, 4), PLACE);
            found(x, before, "drop(2)", x.drop(2), NULL);
            found(x, before, "whatSold(2, 0, 0)", x.whatSold(2, 0, 0), NULL);
            found(x, before, "whatSold(0, 2, 0)", x.whatSold(0, 2, 0), PLACE);
            found(x, before, "who(0, 2, 0, 1)", x.who(0, 2, 0, 1), NULL);
            found(x, before, "who(0, 0, 3, 1)", x.who(0, 0, 3, 1), PLACE);
            found(x, before, "as(0, 4)", x.as(0, 4), KIND);
        }
        CHECK.of("Promise 42, 0: it had none");
        SoupRights x = standing();
        well(x, "row(2, 0, 0)", () -> x.row(2, 0, 0), 0);
        well(x, "set(0, 2, 9)", () -> x.set(0, 2, 9), 9);
        well(x, "copy(0, 0, 0, 1, 2)", () -> x.copy(0, 0, 0, 1, 2), 2);
        well(x, "drop(2)", () -> x.drop(2), 0);
        well(x, "whatSold(0, 0, 0)", () -> x.whatSold(0, 0, 0), 0);
        well(x, "whatSold(0, 0, 1), NONE is no FINDING", () -> x.whatSold(0, 0, 1), NONE);
        well(x, "who(0, 1, 0, 1)", () -> x.who(0, 1, 0, 1), 14);
        well(x, "as(0, 1)", () -> x.as(0, 1), 0);
    }

    private static void found(SoupRights x, int before, String call, int got, int want) {
        CHECK.due(call, got, want);
        CHECK.due("status() behind " + call, x.status(), -1000010 - want);
        CHECK.due("status() once more", x.status(), -1000010 - want);
        if (before == 0) {
            x.as(0, 0);
        }
    }

    private interface Answer {
        int of();
    }

    private static void well(SoupRights x, String call, Answer answer, int want) {
        x.drop(7);
        CHECK.due("status() ahead of " + call, x.status(), 1);
        CHECK.due(call, answer.of(), want);
        CHECK.due("status() behind " + call, x.status(), 0);
    }

    private static void statusStays() {
        CHECK.of("Promise 42, a call that was BAD, STATE or FULL leaves it");
        SoupRights none = new SoupRights();
        none.row(0, 0, -1);
        none.whatSold(0, 0, 0);
        none.as(0, 0);
        none.who(0, 0, 0, 1);
        CHECK.due("status() without a HOUSE", none.status(), 4);
        SoupRights x = standing();
        x.as(0, 5);
        x.row(8, 0, 0);
        x.row(0, 3, 0);
        x.row(0, 0, 41);
        x.set(8, 0, 0);
        x.copy(0, 0, 8, 0, 0);
        x.drop(8);
        x.whatSold(8, 0, 0);
        x.whatSold(0, 0, 2);
        x.who(1, 0, 0, 1);
        x.who(0, 8, 0, 1);
        x.who(0, 0, 0, 0);
        x.as(1, 0);
        x.as(0, 6);
        CHECK.due("status()", x.status(), 3);
        CHECK.of("Promise 42, a call without a ROW leaves it, but as()");
        for (int i = 0; i < 101; i++) {
            x.feed('h');
        }
        x.house();
        x.fault();
        x.days(1);
        x.bind(0, 1);
        x.give(1, 0, 1);
        x.wolves(1);
        x.sell(0, 1, 1);
        x.undo();
        x.right(0, 0);
        x.heir(0, 0);
        x.worth(0, 0);
        x.ahead(0, 0, 0);
        x.whose(0, 0);
        x.eats(0, 1);
        x.starves(0);
        x.richest(0);
        x.price(0);
        x.cheap(0, 0, 0);
        x.sales(0);
        x.surplus(0, 1);
        x.bonds(0, 0);
        x.barter(1, 0);
        x.claims();
        x.peace(0, 1);
        x.prowl(0, 0, 0);
        x.drawn(0, 1, 0);
        x.image(0);
        x.restore(0);
        x.kind(0);
        x.ask(0, 0);
        x.trace(0);
        x.count(0);
        Check.read(x, "h0,0;n1,0,0;");
        CHECK.due("status()", x.status(), 3);
    }
}
