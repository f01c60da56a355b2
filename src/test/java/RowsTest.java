/** Promises 1 to 5, and what status() tells of them (42). */
public final class RowsTest {
    private static final int BAD = SoupRights.BAD;
    private static final int NULL = -1000011, PLACE = -1000012, SIZE = -1000014, STORE = -1000015;
    private static final Check CHECK = new Check();

    public static void main(String[] args) {
        newObject();
        rowsAreMade();
        itemsAreSet();
        itemsAreCopied();
        rowsAreDropped();
        statusTellsTheLatest();
        refusalsChangeNothing();
        CHECK.end("RowsTest");
    }

    private static void newObject() {
        SoupRights x = new SoupRights();
        for (int what = 0; what < 8; what++) {
            CHECK.due("new: count(" + what + ")", x.count(what), 0);
        }
        CHECK.due("new: status()", x.status(), 0);
        CHECK.due("new: fault()", x.fault(), 0);
        CHECK.due("new: right(0, 0)", x.right(0, 0), BAD);
        CHECK.due("new: heir(0, 0)", x.heir(0, 0), BAD);
        CHECK.due("new: claims()", x.claims(), SoupRights.STATE);
        for (int row = 0; row < 8; row++) {
            CHECK.due("new: drop(" + row + ")", x.drop(row), NULL);
        }
    }

    private static void rowsAreMade() {
        SoupRights x = new SoupRights();
        CHECK.due("row(0, 0, 0)", x.row(0, 0, 0), 0);
        CHECK.due("row(7, 2, 40)", x.row(7, 2, 40), 40);
        CHECK.due("two rows", x.count(0), 2);
        CHECK.due("row(7, 1, 3) in its place", x.row(7, 1, 3), 3);
        CHECK.due("two rows still", x.count(0), 2);
        CHECK.due("row(-1, 0, 1)", x.row(-1, 0, 1), BAD);
        CHECK.due("row(8, 0, 1)", x.row(8, 0, 1), BAD);
        CHECK.due("row(1, -1, 1)", x.row(1, -1, 1), BAD);
        CHECK.due("row(1, 3, 1)", x.row(1, 3, 1), BAD);
        CHECK.due("row(1, 2, 41)", x.row(1, 2, 41), BAD);
        CHECK.due("row(1, 3, -1): BAD comes first", x.row(1, 3, -1), BAD);
        CHECK.due("status() of what is BAD", x.status(), 0);
        CHECK.due("row(1, 2, -1)", x.row(1, 2, -1), SIZE);
        CHECK.due("status() of SIZE", x.status(), 4);
        CHECK.due("row(7, 2, MIN)", x.row(7, 2, Integer.MIN_VALUE), SIZE);
        CHECK.due("what is found changes no row", x.count(0), 2);
        CHECK.due("row 7 has 3 yet", x.drop(7), 3);
    }

    private static void itemsAreSet() {
        SoupRights x = new SoupRights();
        x.row(0, 0, 2);
        x.row(1, 1, 2);
        x.row(2, 2, 2);
        int[][] cases = {
            {0, 127, 127}, {0, 128, -128}, {0, 255, -1}, {0, 256, 0}, {0, -129, 127}, {0, 70000, 112},
            {1, 32767, 32767}, {1, 32768, -32768}, {1, 65535, -1}, {1, 65536, 0}, {1, 70000, 4464},
            {2, 70000, 70000}, {2, Integer.MIN_VALUE, Integer.MIN_VALUE}, {2, -1, -1}};
        for (int[] each : cases) {
            CHECK.due("set(" + each[0] + ", 1, " + each[1] + ")", x.set(each[0], 1, each[1]), each[2]);
        }
        CHECK.due("set(-1, 0, 0)", x.set(-1, 0, 0), BAD);
        CHECK.due("set(8, 0, 0)", x.set(8, 0, 0), BAD);
        CHECK.due("set(3, 9, 0) of a missing row", x.set(3, 9, 0), NULL);
        CHECK.due("status() of NULL", x.status(), 1);
        CHECK.due("set(0, 2, 0)", x.set(0, 2, 0), PLACE);
        CHECK.due("status() of PLACE", x.status(), 2);
        CHECK.due("set(0, -1, 0)", x.set(0, -1, 0), PLACE);
        CHECK.due("set(0, MIN, 0)", x.set(0, Integer.MIN_VALUE, 0), PLACE);
        CHECK.due("set(0, MAX, 0)", x.set(0, Integer.MAX_VALUE, 0), PLACE);
        CHECK.due("set(0, 0, 9)", x.set(0, 0, 9), 9);
        CHECK.due("status() behind what is well", x.status(), 0);
        x.row(4, 2, 0);
        CHECK.due("set(4, 0, 9) of an empty row", x.set(4, 0, 9), PLACE);
    }

    /**
     * Items can be seen by who() alone: of an heir with few BOWLS whose right
     * brings nothing the BOWLS behind each DAY are one less, 0 at least.
     */
    private static boolean are(SoupRights x, int row, int i, int bowls, int n) {
        return Check.read(x, "h" + bowls + ",0;n1,60,0;") == 1 && x.who(0, row, i, n) != 0;
    }

    private static void itemsAreCopied() {
        SoupRights x = new SoupRights();
        Check.row(x, 0, 2, 9, 8, 7, 6, 5);
        x.row(1, 2, 6);
        CHECK.due("copy(0, 1, 1, 2, 3)", x.copy(0, 1, 1, 2, 3), 3);
        CHECK.same("8, 7, 6 came to place 2", are(x, 1, 2, 9, 3), true);
        CHECK.same("none ahead of place 2", are(x, 1, 0, 0, 2), true);
        CHECK.same("none behind place 4", are(x, 1, 5, 0, 1), true);
        CHECK.same("row 0 keeps its items", are(x, 0, 0, 10, 5), true);
        CHECK.due("copy(0, 0, 0, 1, 4) within one row", x.copy(0, 0, 0, 1, 4), 4);
        CHECK.same("9, 8, 7, 6 as they were ahead", are(x, 0, 1, 10, 4), true);
        CHECK.due("copy(0, 1, 0, 0, 4) back", x.copy(0, 1, 0, 0, 4), 4);
        CHECK.same("9, 8, 7, 6 from 0 on", are(x, 0, 0, 10, 4), true);
        CHECK.due("copy(0, 5, 1, 6, 0) of nothing at the ends", x.copy(0, 5, 1, 6, 0), 0);

        CHECK.due("copy(-1, 0, 0, 0, 0)", x.copy(-1, 0, 0, 0, 0), BAD);
        CHECK.due("copy(0, 0, 8, 0, 0)", x.copy(0, 0, 8, 0, 0), BAD);
        CHECK.due("copy(2, 0, 0, 0, -1) from a missing row", x.copy(2, 0, 0, 0, -1), NULL);
        CHECK.due("copy(0, 0, 2, 0, -1) to a missing row", x.copy(0, 0, 2, 0, -1), NULL);
        x.row(3, 1, 6);
        CHECK.due("copy(0, 0, 3, 0, 99) of two lanes", x.copy(0, 0, 3, 0, 99), STORE);
        CHECK.due("status() of STORE", x.status(), 5);
        CHECK.due("copy(0, 0, 3, 0, 0) of two lanes", x.copy(0, 0, 3, 0, 0), STORE);
        CHECK.due("copy(0, -1, 1, 0, 1)", x.copy(0, -1, 1, 0, 1), PLACE);
        CHECK.due("copy(0, 0, 1, -1, 1)", x.copy(0, 0, 1, -1, 1), PLACE);
        CHECK.due("copy(0, 0, 1, 0, -1)", x.copy(0, 0, 1, 0, -1), PLACE);
        CHECK.due("copy(0, 1, 1, 0, 5)", x.copy(0, 1, 1, 0, 5), PLACE);
        CHECK.due("copy(1, 0, 0, 0, 6)", x.copy(1, 0, 0, 0, 6), PLACE);
        CHECK.due("copy(0, 6, 1, 0, 0)", x.copy(0, 6, 1, 0, 0), PLACE);
        CHECK.due("copy(0, MAX, 1, 0, MAX)", x.copy(0, Integer.MAX_VALUE, 1, 0, Integer.MAX_VALUE), PLACE);
        CHECK.due("copy(0, 0, 1, MAX, 1)", x.copy(0, 0, 1, Integer.MAX_VALUE, 1), PLACE);
        CHECK.due("copy(0, 0, 1, 0, MIN)", x.copy(0, 0, 1, 0, Integer.MIN_VALUE), PLACE);
    }

    private static void rowsAreDropped() {
        SoupRights x = new SoupRights();
        x.row(5, 1, 17);
        CHECK.due("drop(5)", x.drop(5), 17);
        CHECK.due("no row is left", x.count(0), 0);
        CHECK.due("drop(5) again", x.drop(5), NULL);
        CHECK.due("status() of a row that is missing", x.status(), 1);
        CHECK.due("set(5, 0, 0)", x.set(5, 0, 0), NULL);
        CHECK.due("drop(-1)", x.drop(-1), BAD);
        CHECK.due("drop(8)", x.drop(8), BAD);
        CHECK.due("row(5, 2, 3)", x.row(5, 2, 3), 3);
        x.set(5, 0, 77);
        x.set(5, 2, 77);
        x.row(5, 2, 3);
        CHECK.same("a row made anew has none but 0", are(x, 5, 0, 0, 3), true);
    }

    private static void statusTellsTheLatest() {
        SoupRights x = new SoupRights();
        x.drop(0);
        CHECK.due("status() of drop", x.status(), 1);
        x.row(9, 0, 0);
        CHECK.due("what is BAD leaves it", x.status(), 1);
        x.whatSold(0, 0, 0);
        CHECK.due("what is STATE leaves it", x.status(), 1);
        x.days(1);
        x.feed(1);
        x.count(0);
        CHECK.due("calls without a ROW leave it", x.status(), 1);
        x.row(0, 0, 1);
        CHECK.due("a call that found nothing", x.status(), 0);
    }

    private static void refusalsChangeNothing() {
        SoupRights x = Check.house("h5,0;n1,60,0;");
        Check.row(x, 0, 2, 4, 3, 2);
        x.row(1, 0, 3);
        String before = Check.seen(x);
        x.row(0, 5, 3);
        x.row(0, 2, -3);
        x.row(0, 2, 41);
        x.set(0, 3, 9);
        x.set(0, -1, 9);
        x.copy(1, 0, 0, 0, 3);
        x.copy(0, 0, 0, 1, 3);
        x.copy(0, 1, 0, 0, 3);
        x.drop(8);
        CHECK.same("what is seen behind refusals", Check.seen(x), before);
        CHECK.due("the items behind refusals", x.who(0, 0, 0, 3), 14);
    }
}
