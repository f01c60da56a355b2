/** Promises 6 to 8: the tape, what it tells, and its FAULTS. */
public final class TextTest {
    private static final int BAD = SoupRights.BAD, FULL = SoupRights.FULL;
    private static final Check CHECK = new Check();

    public static void main(String[] args) {
        bytesCome();
        housesAreRead();
        faultsAreFound();
        aFaultLeavesAll();
        aHouseStandsInPlace();
        CHECK.end("TextTest");
    }

    private static void bytesCome() {
        SoupRights x = new SoupRights();
        CHECK.due("feed(-1)", x.feed(-1), BAD);
        CHECK.due("feed(256)", x.feed(256), BAD);
        for (int i = 1; i <= 100; i++) {
            CHECK.due("feed, byte " + i, x.feed(i % 2 * 255), i);
        }
        CHECK.due("feed(0) of a full tape", x.feed(0), FULL);
        CHECK.due("feed(256) of a full tape", x.feed(256), BAD);
        CHECK.due("bytes on the tape", x.count(7), 100);
        CHECK.due("house()", x.house(), -1000100);
        CHECK.due("the tape is empty then", x.count(7), 0);
        CHECK.due("feed(104)", x.feed(104), 1);
    }

    private static void fits(String text, int rights) {
        SoupRights x = new SoupRights();
        CHECK.due("house() of " + text, Check.read(x, text), rights);
        CHECK.due("count(2) of " + text, x.count(2), rights);
        CHECK.due("fault() of " + text, x.fault(), 0);
        CHECK.due("the tape behind " + text, x.count(7), 0);
    }

    private static void housesAreRead() {
        fits("h0,0;n1,0,0;", 1);
        fits("h60,20;p20,60,0;", 1);
        fits("h00,00;n01,00,00;", 1);
        fits("h09,09;t09,09,00;", 1);
        fits("h0,0;h0,0;h0,0;h0,0;h0,0;f1,0,4;", 1);
        fits("h60,20;h60,20;h60,20;h60,20;h60,20;"
            + "n20,60,0;t20,60,1;f20,60,2;l20,60,3;p20,60,4;n20,60,0;n20,60,0;", 7);

        SoupRights x = Check.house("h12,3;h4,15;n7,31,1;t8,32,0;f9,33,1;l10,34,0;p11,35,1;");
        int[][] rights = {{7, 31, 1, 1}, {8, 32, 0, 2}, {9, 33, 1, 3}, {10, 34, 0, 4}, {11, 35, 1, 5}};
        for (int r = 0; r < rights.length; r++) {
            CHECK.due("VALUE of " + r, x.right(r, 0), rights[r][0]);
            CHECK.due("DUE of " + r, x.right(r, 1), rights[r][1]);
            CHECK.due("OWNER of " + r, x.right(r, 2), rights[r][2]);
            CHECK.due("FIRST of " + r, x.right(r, 3), rights[r][2]);
            CHECK.due("bound " + r, x.right(r, 4), 0);
            CHECK.due("kind(" + r + ")", x.kind(r), rights[r][3]);
        }
        CHECK.due("BOWLS of 0", x.heir(0, 0), 12);
        CHECK.due("HUNGER of 0", x.heir(0, 1), 3);
        CHECK.due("RIGHTS of 0", x.heir(0, 2), 10);
        CHECK.due("BOWLS of 1", x.heir(1, 0), 4);
        CHECK.due("HUNGER of 1", x.heir(1, 1), 15);
        CHECK.due("RIGHTS of 1", x.heir(1, 2), 21);
    }

    private static void fails(String text, int place, int number) {
        SoupRights x = new SoupRights();
        CHECK.due("house() of " + text, Check.read(x, text), -1000100 - place);
        CHECK.due("fault() of " + text, x.fault(), number);
        CHECK.due("no house behind " + text, x.count(1) + x.count(2), 0);
        CHECK.due("the tape behind " + text, x.count(7), 0);
    }

    private static void faultsAreFound() {
        fails("", 0, 1);
        fails(" ", 0, 1);
        fails("n1,0,0;", 0, 1);
        fails("h", 1, 1);
        fails("h,0;", 1, 1);
        fails("h0", 2, 1);
        fails("h1;0;", 2, 1);
        fails("h0 ,0;", 2, 1);
        fails("h0,", 3, 1);
        fails("h0,0,", 4, 1);
        fails("h0,0;", 5, 1);
        fails("h0,0;;", 5, 1);
        fails("h0,0;z1,0,0;", 5, 1);
        fails("h0,0;5", 5, 1);
        fails("h0,0;hn", 6, 1);
        fails("H0,0;n1,0,0;", 0, 1);
        fails("h0,0;N1,0,0;", 5, 1);
        fails("h0,0;n1,0,0;h0,0;", 12, 1);
        fails("h0,0;n1,0,0;;", 12, 1);
        fails("h0,0;n1,0,0;\u00e9", 12, 1);
        fails("h0,0;n1,0,0;\0", 12, 1);
        fails("h0,0;n1,0,0", 11, 1);
        fails("h0,0;n1,0;", 9, 1);
        fails("h0,0;n1,0", 9, 1);
        fails("h-1,0;", 1, 1);
        // runs of three figures, and more, are no TOKEN
        fails("h100,0;", 1, 1);
        fails("h000,0;n1,0,0;", 1, 1);
        fails("h0,0000;n1,0,0;", 3, 1);
        fails("h0,0;n001,0,0;", 6, 1);
        fails("h0,0;n1,0,000;", 10, 1);
        fails("123", 0, 1);
        // NUMBERS that are not as told
        fails("h61,0;n1,0,0;", 1, 2);
        fails("h99,21;n1,0,0;", 1, 2);
        fails("h0,21;n1,0,0;", 3, 2);
        fails("h0,0;n0,0,0;", 6, 2);
        fails("h0,0;n21,0,0;", 6, 2);
        fails("h0,0;n00,0,0;", 6, 2);
        fails("h0,0;n1,61,0;", 8, 2);
        fails("h0,0;n1,0,1;", 10, 2);
        fails("h0,0;h0,0;n1,0,2;", 15, 2);
        fails("h0,0;n1,0,99;", 10, 2);
        // the first TOKEN comes first, though a later one has a lesser FAULT
        fails("h61;", 1, 2);
        fails("h61", 1, 2);
        // too many
        fails("h0,0;h0,0;h0,0;h0,0;h0,0;h0,0;n1,0,0;", 25, 3);
        fails("h0,0;h0,0;h0,0;h0,0;h0,0;h99", 25, 3);
        String seven = "n1,0,0;t1,0,0;f1,0,0;l1,0,0;p1,0,0;n1,0,0;n1,0,0;";
        fails("h0,0;" + seven + "n1,0,0;", 54, 3);
        fails("h0,0;" + seven + "p", 54, 3);
        // of one TOKEN the least
        fails("h0,0;" + seven + "h0,0;", 54, 1);
        fails("h0,0;h0,0;h0,0;h0,0;h0,0;n1,0,0;h0,0;", 32, 1);
    }

    private static void aFaultLeavesAll() {
        SoupRights x = Check.house("h5,3;h9,0;n9,9,0;");
        x.give(1, 0, 2);
        x.bind(0, 1);
        x.image(1);
        x.days(1);
        String before = Check.seen(x);
        CHECK.due("a text with a fault", Check.read(x, "h0,0;h0,0;h0,0;h61"), -1000116);
        CHECK.same("all stays, but the number of the fault", Check.seen(x), before.replace("fault 0", "fault 2"));
        CHECK.due("undo() behind a fault", x.undo(), 2);
        CHECK.due("a text that fits", Check.read(x, "h0,0;n1,0,0;"), 1);
        CHECK.due("fault() is the latest yet", x.fault(), 2);
        Check.read(x, "x");
        CHECK.due("fault() of a later one", x.fault(), 1);
    }

    private static void aHouseStandsInPlace() {
        SoupRights x = Check.house("h5,9;h9,0;h1,1;n9,9,0;f4,3,1;");
        x.sell(0, 1, 1);
        x.bind(0, 1);
        x.days(3);
        CHECK.due("what is foretold ahead", x.ahead(0, 7, 0), 0);
        CHECK.due("acts ahead", x.count(6), 5);
        CHECK.due("sold ahead", x.count(5), 1);
        CHECK.due("house()", Check.read(x, "h7,2;l9,9,0;"), 1);
        CHECK.due("HEIRS", x.count(1), 1);
        CHECK.due("RIGHTS", x.count(2), 1);
        CHECK.due("DAY", x.count(3), 0);
        CHECK.due("BOWLS", x.count(4), 7);
        CHECK.due("sold", x.count(5), 0);
        CHECK.due("ACTS", x.count(6), 0);
        CHECK.due("bound", x.right(0, 4), 0);
        CHECK.due("undo()", x.undo(), SoupRights.STATE);
        CHECK.due("heir(1, 0)", x.heir(1, 0), BAD);
        CHECK.due("right(1, 0)", x.right(1, 0), BAD);
    }
}
