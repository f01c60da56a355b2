/** The edges of promises 37 to 41: KINDS, ASKS, THE TRACE, count(), a sentence each. */
public final class EdgesOfAskedTest {
    private static final int NONE = SoupRights.NONE, BAD = SoupRights.BAD, STATE = SoupRights.STATE;
    private static final int KIND = -1000013;
    private static final int MIN = Integer.MIN_VALUE, MAX = Integer.MAX_VALUE;
    private static final Check CHECK = new Check();

    public static void main(String[] args) {
        kinds();
        takenAs();
        asRefused();
        sizes();
        marks();
        asksOfWhatIsSold();
        asksRefused();
        theTrace();
        countRows();
        countTheHouse();
        countWhatIsDone();
        countTheTape();
        CHECK.end("EdgesOfAskedTest");
    }

    /** RIGHTS 0 to 6, of KINDS 1 to 5, 3, 1; the last two of HEIR 4. */
    private static SoupRights all() {
        return Check.house("h0,0;h0,0;h0,0;h0,0;h9,0;n1,0,0;t20,0,1;f7,0,2;l8,0,3;p9,0,4;f20,0,4;n20,0,4;");
    }

    private static void kinds() {
        CHECK.of("Promise 37, the KIND as told (1 to 5)");
        SoupRights x = all();
        int[] due = {1, 2, 3, 4, 5, 3, 1};
        for (int one = 0; one < 7; one++) {
            CHECK.due("kind(" + one + ")", x.kind(one), due[one]);
        }
        CHECK.of("Promise 37, BAD: there is no such RIGHT");
        for (int one : new int[] {MIN, -1, 7, 256, MAX}) {
            CHECK.due("kind(" + one + ")", x.kind(one), BAD);
        }
        Check.read(x, "h0,0;l1,0,0;");
        CHECK.due("kind(0) of another HOUSE", x.kind(0), 4);
        CHECK.due("kind(1) of another HOUSE", x.kind(1), BAD);
        CHECK.due("kind(0) of none", new SoupRights().kind(0), BAD);
        CHECK.of("Promise 37, a KIND stays as told behind DUE");
        x.days(5);
        CHECK.due("kind(0)", x.kind(0), 4);
    }

    private static void takenAs() {
        CHECK.of("Promise 38, a RIGHT is taken as one of a KIND: its number");
        int[][] is = {{0, 1}, {0, 1, 2}, {0, 1, 3}, {0, 4}, {0, 4, 5}, {0, 1, 3}, {0, 1}};
        SoupRights x = all();
        for (int one = 0; one < 7; one++) {
            for (int kind = 0; kind < 6; kind++) {
                boolean fits = false;
                for (int each : is[one]) {
                    fits |= each == kind;
                }
                CHECK.due("as(" + one + ", " + kind + ")", x.as(one, kind), fits ? one : KIND);
                CHECK.due("status() behind it", x.status(), fits ? 0 : 3);
            }
        }
        CHECK.of("Promise 38, KIND changes nothing");
        CHECK.due("kind(0)", x.kind(0), 1);
        CHECK.due("kind(4)", x.kind(4), 5);
    }

    private static void asRefused() {
        CHECK.of("Promise 38, BAD ahead of KIND");
        SoupRights x = all();
        for (int odd : new int[] {MIN, -1, 7, 256, MAX}) {
            CHECK.due("as(" + odd + ", 0)", x.as(odd, 0), BAD);
            CHECK.due("as(" + odd + ", 5)", x.as(odd, 5), BAD);
        }
        for (int odd : new int[] {MIN, -1, 6, 256, MAX}) {
            CHECK.due("as(0, " + odd + ")", x.as(0, odd), BAD);
            CHECK.due("as(4, " + odd + ")", x.as(4, odd), BAD);
        }
        CHECK.due("as(0, 0) of none", new SoupRights().as(0, 0), BAD);
        CHECK.due("status()", x.status(), 0);
    }

    private static void ask(SoupRights x, int one, int what, int answer, int... trace) {
        String call = "ask(" + one + ", " + what + ")";
        CHECK.due(call, x.ask(one, what), answer);
        for (int i = 0; i < 20; i++) {
            CHECK.due(call + ", trace(" + i + ")", x.trace(i), i < trace.length ? trace[i] : NONE);
        }
    }

    private static void sizes() {
        SoupRights x = all();
        CHECK.of("Promise 39, SIZE of a NAME: 11, what 10 gives, and MARK");
        ask(x, 0, 0, 1, 11, 10, 21, 20);
        ask(x, 6, 0, 20 + 6 + 4, 11, 10, 21, 20);
        CHECK.of("Promise 39, SIZE of a TWIN: 12, 0 less what 11 gives");
        ask(x, 1, 0, -(20 + 2 * (1 + 1)), 12, 11, 10, 24, 21, 20);
        CHECK.of("Promise 39, SIZE of FRUIT: 11 of the nearest KIND, MARK asked anew");
        ask(x, 2, 0, 7 + 2 + 2 - 1000, 11, 10, 22, 21, 20);
        ask(x, 5, 0, 20 + 5 + 4 - 1000, 11, 10, 22, 21, 20);
        CHECK.of("Promise 39, SIZE of a LOAN: 13, what 10 gives, less 100");
        ask(x, 3, 0, 8 - 100, 13, 10);
        CHECK.of("Promise 39, SIZE of a PROXY: 14, what 13 gives, twice");
        ask(x, 4, 0, 2 * (9 - 100), 14, 13, 10);
    }

    private static void marks() {
        SoupRights x = all();
        CHECK.of("Promise 39, MARK of a NAME: 21, what 20 gives, and its OWNER");
        ask(x, 0, 1, 0, 21, 20);
        ask(x, 6, 1, 6 + 4, 21, 20);
        CHECK.of("Promise 39, MARK of a TWIN: 24, what 21 gives, twice");
        ask(x, 1, 1, 2 * (1 + 1), 24, 21, 20);
        ask(Check.house("h0,0;h0,0;n1,0,0;n1,0,0;t1,0,1;"), 2, 1, 2 * (2 + 1), 24, 21, 20);
        CHECK.of("Promise 39, MARK of FRUIT: 22, what 21 gives, less 1000");
        ask(x, 2, 1, 2 + 2 - 1000, 22, 21, 20);
        ask(x, 5, 1, 5 + 4 - 1000, 22, 21, 20);
        CHECK.of("Promise 39, MARK of a LOAN: 23, what 20 gives, less SIZE");
        ask(x, 3, 1, 3 - (8 - 100), 23, 20, 13, 10);
        CHECK.of("Promise 39, MARK of a PROXY: 23 of the nearest KIND, SIZE asked anew");
        ask(x, 4, 1, 4 - 2 * (9 - 100), 23, 20, 14, 13, 10);
    }

    private static void asksOfWhatIsSold() {
        CHECK.of("Promise 39, its OWNER now, not whose it was FIRST");
        SoupRights x = Check.house("h0,9;h0,0;h5,0;n8,1,0;t8,1,0;f8,1,0;");
        CHECK.due("sell(0, 2, 1)", x.sell(0, 2, 1), 1);
        CHECK.due("sell(1, 2, 1)", x.sell(1, 2, 1), 2);
        ask(x, 0, 1, 0 + 2, 21, 20);
        ask(x, 0, 0, 8 + 2, 11, 10, 21, 20);
        ask(x, 1, 1, 2 * (1 + 2), 24, 21, 20);
        ask(x, 2, 1, 2 + 0 - 1000, 22, 21, 20);
        CHECK.of("Promise 39, VALUE whatever DAY it is");
        x.days(24);
        ask(x, 0, 0, 8 + 2, 11, 10, 21, 20);
    }

    private static void asksRefused() {
        CHECK.of("Promise 39, BAD, and THE TRACE stays");
        SoupRights x = all();
        x.ask(6, 1);
        for (int odd : new int[] {MIN, -1, 7, 256, MAX}) {
            CHECK.due("ask(" + odd + ", 0)", x.ask(odd, 0), BAD);
            CHECK.due("ask(" + odd + ", 1)", x.ask(odd, 1), BAD);
        }
        for (int odd : new int[] {MIN, -1, 2, 256, MAX}) {
            CHECK.due("ask(0, " + odd + ")", x.ask(0, odd), BAD);
        }
        CHECK.due("trace(0)", x.trace(0), 21);
        CHECK.due("trace(1)", x.trace(1), 20);
        CHECK.due("trace(2)", x.trace(2), NONE);
        SoupRights none = new SoupRights();
        CHECK.due("ask(0, 0) of none", none.ask(0, 0), BAD);
        CHECK.due("ask(0, 1) of none", none.ask(0, 1), BAD);
        CHECK.due("trace(0)", none.trace(0), NONE);
    }

    private static void theTrace() {
        CHECK.of("Promise 40, NONE ahead of asks");
        SoupRights x = all();
        for (int i : new int[] {MIN, -1, 0, 1, 15, 16, 17, MAX}) {
            CHECK.due("trace(" + i + ")", x.trace(i), NONE);
        }
        CHECK.of("Promise 40, the last number, and NONE beyond");
        x.ask(1, 0);
        CHECK.due("trace(0)", x.trace(0), 12);
        CHECK.due("trace(5)", x.trace(5), 20);
        for (int i : new int[] {MIN, -16, -1, 6, 7, 15, 16, 17, 256, MAX}) {
            CHECK.due("trace(" + i + ")", x.trace(i), NONE);
        }
        CHECK.of("Promise 39, THE TRACE is empty ahead of an ask");
        x.ask(0, 1);
        CHECK.due("trace(1)", x.trace(1), 20);
        CHECK.due("trace(2)", x.trace(2), NONE);
        x.ask(0, 1);
        CHECK.due("trace(0) once more", x.trace(0), 21);
        CHECK.due("trace(2) once more", x.trace(2), NONE);
        CHECK.of("Promise 40, other calls leave THE TRACE");
        x.days(3);
        x.undo();
        x.kind(3);
        x.as(3, 5);
        x.image(0);
        x.restore(0);
        Check.read(x, "h0,0;l1,0,0;");
        Check.read(x, "?");
        CHECK.due("trace(0)", x.trace(0), 21);
        CHECK.due("trace(1)", x.trace(1), 20);
    }

    private static void countRows() {
        CHECK.of("Promise 41, 0 ROWS: 0 to 8");
        SoupRights x = new SoupRights();
        for (int row = 0; row < 8; row++) {
            CHECK.due("count(0)", x.count(0), row);
            x.row(row, 0, row == 0 ? 0 : 40);
        }
        CHECK.due("count(0)", x.count(0), 8);
        x.row(3, 1, 1);
        CHECK.due("count(0), one in place", x.count(0), 8);
        x.drop(3);
        CHECK.due("count(0), one dropped", x.count(0), 7);
        x.drop(3);
        x.row(3, 0, -1);
        x.row(3, 0, 41);
        CHECK.due("count(0), none made", x.count(0), 7);
    }

    private static void countTheHouse() {
        CHECK.of("Promise 41, 1 HEIRS, 2 RIGHTS, 4 all BOWLS");
        SoupRights x = all();
        CHECK.due("count(1)", x.count(1), 5);
        CHECK.due("count(2)", x.count(2), 7);
        CHECK.due("count(4)", x.count(4), 9);
        Check.read(x, "h0,0;n1,0,0;");
        CHECK.due("count(1) least", x.count(1), 1);
        CHECK.due("count(2) least", x.count(2), 1);
        CHECK.due("count(4) least", x.count(4), 0);
        Check.read(x, "h60,0;h60,0;h60,0;h60,0;h60,0;f20,0,0;f20,0,1;f20,0,2;f20,0,3;f20,0,4;");
        CHECK.due("count(4)", x.count(4), 300);
        x.days(3);
        CHECK.due("count(4), 98 each", x.count(4), 490);
        x.wolves(2);
        CHECK.due("count(4) behind wolves", x.count(4), 441);
        x.give(0, 2, 60);
        CHECK.due("count(4) behind a gift, 10 lost", x.count(4), 431);
        CHECK.of("Promise 41, BAD");
        for (int what : new int[] {MIN, -1, 8, 256, MAX}) {
            CHECK.due("count(" + what + ")", x.count(what), BAD);
        }
    }

    private static void countWhatIsDone() {
        CHECK.of("Promise 41, 3 DAY, 5 how many were sold, 6 ACTS that can be undone");
        SoupRights x = Check.house("h0,9;h9,0;n8,1,0;n8,1,0;n8,1,0;");
        for (int right = 0; right < 3; right++) {
            CHECK.due("count(5)", x.count(5), right);
            x.sell(right, 1, 1);
        }
        CHECK.due("count(5)", x.count(5), 3);
        CHECK.due("count(6)", x.count(6), 3);
        x.undo();
        CHECK.due("count(5), one undone", x.count(5), 2);
        CHECK.due("count(6), one undone", x.count(6), 2);
        x.sell(2, 1, 9);
        CHECK.due("count(5), one refused", x.count(5), 2);
        x.days(24);
        CHECK.due("count(3)", x.count(3), 24);
        CHECK.due("count(5) behind DAYS", x.count(5), 2);
        CHECK.due("count(6) of 26", x.count(6), 24);
        x.undo();
        CHECK.due("count(3), one undone", x.count(3), 23);
        CHECK.due("count(6), one undone", x.count(6), 23);
        Check.read(x, "h0,0;n1,0,0;");
        for (int what : new int[] {3, 5, 6}) {
            CHECK.due("count(" + what + ") of another HOUSE", x.count(what), 0);
        }
        CHECK.due("undo()", x.undo(), STATE);
    }

    private static void countTheTape() {
        CHECK.of("Promise 41, 7 bytes on the tape: 0 to 100");
        SoupRights x = new SoupRights();
        for (int i = 0; i < 100; i++) {
            CHECK.due("count(7)", x.count(7), i);
            x.feed(i);
        }
        CHECK.due("count(7)", x.count(7), 100);
        x.feed(0);
        x.feed(256);
        CHECK.due("count(7), two refused", x.count(7), 100);
        x.house();
        CHECK.due("count(7) behind house()", x.count(7), 0);
    }
}
