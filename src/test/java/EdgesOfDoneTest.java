/** The edges of promises 9 to 17: ACTS, DAYS, sales, oaths, gifts, wolves, WORTH, a sentence each. */
public final class EdgesOfDoneTest {
    private static final int BAD = SoupRights.BAD, STATE = SoupRights.STATE, FULL = SoupRights.FULL;
    private static final int MIN = Integer.MIN_VALUE, MAX = Integer.MAX_VALUE;
    private static final Check CHECK = new Check();

    public static void main(String[] args) {
        undoNone();
        undoEachAct();
        undoWhatWasLost();
        undoInAFullHouse();
        undoTwentyFour();
        undoAndAct();
        refusedIsNoAct();
        daysRefused();
        daysToTheLast();
        daysAreActs();
        aName();
        aTwins();
        fruits();
        aLoan();
        aProxy();
        bowlsAtMost();
        eating();
        sellForHowMuch();
        sellAtMost();
        sellRefused();
        sellBehindASale();
        bind();
        give();
        wolves();
        rightAndHeir();
        worthToday();
        worthBehindDue();
        CHECK.end("EdgesOfDoneTest");
    }

    private static void undoNone() {
        CHECK.of("Promise 9, STATE: none");
        SoupRights x = new SoupRights();
        CHECK.due("undo() of a new object", x.undo(), STATE);
        Check.read(x, "h5,0;n1,0,0;");
        CHECK.due("undo() of a HOUSE just read", x.undo(), STATE);
        x.wolves(0);
        CHECK.due("undo() of one ACT", x.undo(), 0);
        CHECK.due("undo() behind it", x.undo(), STATE);
        CHECK.due("undo() once more", x.undo(), STATE);
        CHECK.due("BOWLS", x.heir(0, 0), 5);
        x.wolves(0);
        x.image(0);
        x.restore(0);
        CHECK.due("undo() behind restore()", x.undo(), STATE);
        x.wolves(0);
        Check.read(x, "h5,0;n1,0,0;");
        CHECK.due("undo() behind another HOUSE", x.undo(), STATE);
        x.wolves(0);
        Check.read(x, "h5,0;n1,0,0");
        CHECK.due("undo() behind a FAULT", x.undo(), 0);
    }

    private static SoupRights two() {
        return Check.house("h3,9;h40,0;h4,3;n9,5,0;p7,0,1;l5,0,0;");
    }

    private static void undoEachAct() {
        CHECK.of("Promise 9, each ACT can be undone");
        for (int act = 0; act < 6; act++) {
            SoupRights x = two();
            String before = Check.seen(x);
            if (act == 0) {
                CHECK.due("days(1)", x.days(1), 1);
                CHECK.due("the proxy went on", x.right(1, 2), 2);
            } else if (act == 1) {
                CHECK.due("sell(0, 1, 2)", x.sell(0, 1, 2), 5);
            } else if (act == 2) {
                CHECK.due("bind(2, 1)", x.bind(2, 1), 4);
            } else if (act == 3) {
                CHECK.due("give(1, 2, 7)", x.give(1, 2, 7), 11);
            } else if (act == 4) {
                CHECK.due("wolves(1)", x.wolves(1), 20);
            } else {
                x.bind(2, 1);
                x.undo();
                CHECK.due("bind(0, 1)", x.bind(0, 1), 1);
            }
            CHECK.due("count(6)", x.count(6), 1);
            CHECK.same("something changed, act " + act, Check.seen(x).equals(before), false);
            CHECK.due("undo()", x.undo(), 0);
            CHECK.same("all as before act " + act, Check.seen(x), before);
        }
        CHECK.of("Promise 9, that one is freed can be undone");
        SoupRights x = two();
        x.bind(1, 1);
        x.bind(2, 1);
        x.bind(1, 0);
        CHECK.due("undo()", x.undo(), 2);
        CHECK.due("bound again", x.right(1, 4), 1);
        CHECK.due("the other one, too", x.right(2, 4), 1);
    }

    private static void undoWhatWasLost() {
        CHECK.of("Promise 9, BOWLS that were lost above 99");
        SoupRights x = Check.house("h60,9;h60,0;h60,0;n9,1,0;f20,2,0;");
        x.give(1, 0, 30);
        String before = Check.seen(x);
        CHECK.due("give(2, 0, 20)", x.give(2, 0, 20), 99);
        CHECK.due("undo()", x.undo(), 1);
        CHECK.same("as before", Check.seen(x), before);
        CHECK.due("sell(0, 2, 9)", x.sell(0, 2, 9), 99);
        CHECK.due("undo()", x.undo(), 1);
        CHECK.same("as before", Check.seen(x), before);
        x.days(2);
        before = Check.seen(x);
        CHECK.due("BOWLS ahead of the fruits", x.heir(0, 0), 97);
        x.days(1);
        CHECK.due("BOWLS behind the fruits", x.heir(0, 0), 98);
        CHECK.due("undo()", x.undo(), 3);
        CHECK.same("as before", Check.seen(x), before);
    }

    private static void undoInAFullHouse() {
        CHECK.of("Promise 9, of five HEIRS and seven RIGHTS each is as it was");
        SoupRights x = Check.house("h1,20;h2,19;h3,18;h4,17;h60,0;n9,1,3;t8,1,2;f7,1,1;n6,1,0;l9,1,3;p9,1,2;n9,1,1;");
        String[] seen = new String[24];
        int acts = 0;
        for (int right = 0; right < 7; right++) {
            seen[acts] = Check.seen(x);
            CHECK.same("sell(" + right + ", 4, ..)", x.sell(right, 4, x.price(right)) > 0, true);
            acts++;
            CHECK.due("whose it is", x.right(right, 2), 4);
        }
        for (int right = 0; right < 7; right++) {
            seen[acts] = Check.seen(x);
            x.bind(right, 1);
            acts++;
        }
        for (int heir = 0; heir < 5; heir++) {
            seen[acts] = Check.seen(x);
            x.wolves(heir);
            acts++;
        }
        for (int day = 0; day < 3; day++) {
            seen[acts] = Check.seen(x);
            x.days(1);
            acts++;
        }
        CHECK.due("the loan went back", x.right(4, 2), 3);
        CHECK.due("the proxy went on", x.right(5, 2), 3);
        for (int left = acts - 1; left >= 0; left--) {
            CHECK.due("undo()", x.undo(), left);
            CHECK.same("undone to " + left, Check.seen(x), seen[left]);
        }
        CHECK.due("whose RIGHT 6 is", x.right(6, 2), 1);
    }

    private static void undoTwentyFour() {
        CHECK.of("Promise 9, 24 ACTS at most are kept, of more the oldest is forgotten");
        for (int acts : new int[] {23, 24, 25, 47, 48, 49, 100}) {
            SoupRights x = Check.house("h0,0;n1,60,0;n1,60,0;");
            for (int i = 0; i < acts; i++) {
                x.bind(i / 2 % 2, 1 - i % 2);
            }
            int kept = Math.min(acts, 24);
            CHECK.due("count(6) behind " + acts, x.count(6), kept);
            for (int left = kept - 1; left >= 0; left--) {
                CHECK.due("undo() behind " + acts, x.undo(), left);
            }
            CHECK.due("undo() behind all of " + acts, x.undo(), STATE);
            CHECK.due("count(6) then", x.count(6), 0);
            int gone = acts - kept;
            CHECK.due("what is bound then", x.right(gone / 2 % 2, 4), gone % 2);
        }
        CHECK.of("Promise 9, the latest first");
        SoupRights x = Check.house("h60,0;h0,0;n1,60,0;");
        for (int n = 1; n <= 10; n++) {
            x.give(0, 1, n);
        }
        for (int n = 10; n >= 1; n--) {
            CHECK.due("BOWLS ahead of undo", x.heir(1, 0), n * (n + 1) / 2);
            CHECK.due("undo()", x.undo(), n - 1);
        }
        CHECK.due("BOWLS then", x.heir(1, 0), 0);
    }

    private static void undoAndAct() {
        CHECK.of("Promise 9, what is done behind undo() is kept in place of what was undone");
        SoupRights x = Check.house("h0,0;n1,60,0;");
        x.days(24);
        x.days(6);
        for (int i = 0; i < 10; i++) {
            x.undo();
        }
        CHECK.due("DAY", x.count(3), 20);
        CHECK.due("count(6)", x.count(6), 14);
        x.days(9);
        CHECK.due("count(6)", x.count(6), 23);
        x.days(2);
        CHECK.due("count(6)", x.count(6), 24);
        for (int left = 23; left >= 0; left--) {
            CHECK.due("undo()", x.undo(), left);
            CHECK.due("DAY", x.count(3), left + 7);
        }
        CHECK.due("undo()", x.undo(), STATE);
        CHECK.due("DAY", x.count(3), 7);
    }

    private static void refusedIsNoAct() {
        CHECK.of("Promise 9, what is refused is no ACT");
        SoupRights x = two();
        x.days(0);
        x.days(25);
        x.sell(0, 1, 100);
        x.sell(0, 0, 2);
        x.sell(0, 1, 20);
        x.bind(0, 0);
        x.bind(0, 2);
        x.give(0, 1, 4);
        x.give(0, 0, 1);
        x.wolves(3);
        x.undo();
        x.image(2);
        CHECK.due("count(6)", x.count(6), 0);
        CHECK.of("Promise 9, what is foretold, asked or kept is no ACT");
        x.ahead(0, 9, 0);
        x.drawn(9, 9, 0);
        x.barter(3, 0);
        x.ask(0, 0);
        x.row(0, 0, 1);
        x.image(0);
        CHECK.due("count(6)", x.count(6), 0);
    }

    private static void daysRefused() {
        CHECK.of("Promise 10, STATE: no HOUSE, ahead of BAD");
        SoupRights none = new SoupRights();
        for (int n : new int[] {MIN, -1, 0, 1, 24, 25, MAX}) {
            CHECK.due("days(" + n + ")", none.days(n), STATE);
        }
        CHECK.of("Promise 10, n DAYS (1 to 24)");
        SoupRights x = Check.house("h0,0;n1,60,0;");
        for (int n : new int[] {MIN, -24, -1, 0, 25, 999, 1000, MAX - 998, MAX}) {
            CHECK.due("days(" + n + ")", x.days(n), BAD);
        }
        CHECK.due("DAY", x.count(3), 0);
        CHECK.due("days(1)", x.days(1), 1);
        CHECK.due("days(24)", x.days(24), 25);
    }

    private static void daysToTheLast() {
        CHECK.of("Promise 10, FULL: DAY would be above 999");
        SoupRights x = Check.house("h0,0;h60,0;f1,0,0;");
        for (int i = 1; i <= 40; i++) {
            CHECK.due("days(24)", x.days(24), i * 24);
        }
        x.days(16);
        CHECK.due("DAY", x.count(3), 976);
        String before = Check.seen(x);
        CHECK.due("days(24) to 1000", x.days(24), FULL);
        CHECK.same("none of these DAYS was", Check.seen(x), before);
        CHECK.due("days(25), BAD ahead of FULL", x.days(25), BAD);
        CHECK.due("days(23) to 999", x.days(23), 999);
        CHECK.due("BOWLS of who has the fruits", x.heir(0, 0), 0);
        CHECK.due("HUNGER of who has none", x.heir(1, 1), 20);
        for (int n : new int[] {1, 2, 23, 24}) {
            CHECK.due("days(" + n + ") at 999", x.days(n), FULL);
        }
        for (int n : new int[] {MIN, -1, 0, 25, MAX - 999, MAX - 998, MAX}) {
            CHECK.due("days(" + n + ") at 999", x.days(n), BAD);
        }
        CHECK.due("DAY", x.count(3), 999);
        CHECK.due("undo()", x.undo(), 23);
        CHECK.due("DAY", x.count(3), 998);
        CHECK.due("days(2) to 1000", x.days(2), FULL);
        CHECK.due("days(1) to 999", x.days(1), 999);
    }

    private static void daysAreActs() {
        CHECK.of("Promise 10, an ACT each");
        SoupRights x = Check.house("h9,0;n1,60,0;");
        x.days(3);
        CHECK.due("count(6)", x.count(6), 3);
        CHECK.due("undo()", x.undo(), 2);
        CHECK.due("DAY", x.count(3), 2);
        CHECK.due("BOWLS", x.heir(0, 0), 7);
        x.undo();
        CHECK.due("days(24)", x.days(24), 25);
        CHECK.due("count(6)", x.count(6), 24);
    }

    /** BOWLS of an HEIR behind each of the next DAYS. */
    private static void days(SoupRights x, int heir, int... bowls) {
        for (int i = 0; i < bowls.length; i++) {
            int day = x.count(3);
            x.days(1);
            CHECK.due("BOWLS of " + heir + " behind DAY " + day, x.heir(heir, 0), bowls[i]);
        }
    }

    private static void aName() {
        CHECK.of("Promise 10, a name brings its OWNER VALUE, if DAY is DUE");
        days(Check.house("h0,0;n20,0,0;"), 0, 19, 18, 17);
        days(Check.house("h0,0;n20,1,0;"), 0, 0, 19, 18);
        days(Check.house("h0,0;n1,1,0;"), 0, 0, 0, 0);
        SoupRights far = Check.house("h0,0;h0,0;n20,60,1;");
        far.days(24);
        far.days(24);
        far.days(11);
        days(far, 1, 0, 19, 18);
        CHECK.due("DAY", far.count(3), 62);
        SoupRights sold = Check.house("h0,9;h9,0;n5,2,0;");
        CHECK.due("sell(0, 1, 1)", sold.sell(0, 1, 1), 1);
        sold.bind(0, 1);
        days(sold, 1, 7, 6, 10, 9);
        CHECK.due("BOWLS of whose it was FIRST", sold.heir(0, 0), 0);
    }

    private static void aTwins() {
        CHECK.of("Promise 10, a twin's brings half of VALUE (cut), then as much to whose it was FIRST");
        days(Check.house("h0,0;t20,0,0;"), 0, 19, 18);
        days(Check.house("h0,0;t19,1,0;"), 0, 0, 17, 16);
        days(Check.house("h5,0;t1,0,0;"), 0, 4, 3);
        days(Check.house("h5,0;t2,0,0;"), 0, 6, 5);
        SoupRights sold = Check.house("h0,9;h9,0;t7,1,0;");
        CHECK.due("sell(0, 1, 1)", sold.sell(0, 1, 1), 1);
        sold.days(1);
        days(sold, 1, 9, 8);
        CHECK.due("BOWLS of whose it was FIRST", sold.heir(0, 0), 1);
        CHECK.of("Promise 10, a twin's with 99 BOWLS at most, of each half");
        SoupRights full = Check.house("h60,9;h60,0;h60,0;t20,1,0;");
        CHECK.due("sell(0, 1, 2)", full.sell(0, 1, 2), 62);
        full.give(2, 0, 35);
        full.days(1);
        CHECK.due("BOWLS of FIRST ahead", full.heir(0, 0), 96);
        CHECK.due("BOWLS of the OWNER ahead", full.heir(1, 0), 57);
        full.days(1);
        CHECK.due("BOWLS of FIRST", full.heir(0, 0), 98);
        CHECK.due("BOWLS of the OWNER", full.heir(1, 0), 66);
    }

    private static void fruits() {
        CHECK.of("Promise 10, one of fruits brings VALUE, if DAY is DUE or more");
        days(Check.house("h0,0;f3,0,0;"), 0, 2, 4, 6);
        days(Check.house("h0,0;f3,2,0;"), 0, 0, 0, 2, 4, 6);
        SoupRights sold = Check.house("h0,20;h9,0;f3,1,0;");
        CHECK.due("sell(0, 1, 1)", sold.sell(0, 1, 1), 1);
        days(sold, 1, 7, 9, 11);
        CHECK.due("BOWLS of whose it was FIRST", sold.heir(0, 0), 0);
    }

    private static void aLoan() {
        CHECK.of("Promise 10, a loan brings VALUE, if DAY is less than DUE");
        days(Check.house("h0,0;l3,0,0;"), 0, 0, 0);
        days(Check.house("h0,0;l3,1,0;"), 0, 2, 1, 0);
        days(Check.house("h0,0;l3,2,0;"), 0, 2, 4, 3, 2);
        CHECK.of("Promise 10, a loan is his whose it was FIRST from DUE on, bound or not, and brings nothing");
        for (int bound = 0; bound < 2; bound++) {
            SoupRights x = Check.house("h0,9;h0,0;h9,0;l3,2,0;");
            CHECK.due("sell(0, 2, 1)", x.sell(0, 2, 1), 1);
            if (bound == 1) {
                x.bind(0, 1);
            }
            days(x, 2, 10, 12);
            CHECK.due("whose it is on the DAY", x.right(0, 2), 2);
            CHECK.due("claims()", x.claims(), 1);
            days(x, 2, 11);
            CHECK.due("whose it is behind it", x.right(0, 2), 0);
            CHECK.due("claims()", x.claims(), 0);
            CHECK.due("BOWLS of FIRST", x.heir(0, 0), 0);
            CHECK.due("bound", x.right(0, 4), bound);
            CHECK.due("RIGHTS of 0", x.heir(0, 2), 1);
            CHECK.due("RIGHTS of 2", x.heir(2, 2), 0);
            CHECK.due("how many were sold", x.count(5), 1);
        }
    }

    private static void aProxy() {
        CHECK.of("Promise 10, a proxy likewise, but it is the HEIR's behind that one");
        days(Check.house("h0,0;h0,0;p3,2,0;"), 0, 2, 4, 3, 2);
        for (int first = 0; first < 5; first++) {
            SoupRights x = Check.house("h0,0;h0,0;h0,0;h0,0;h0,0;p3,1," + first + ";");
            x.days(1);
            CHECK.due("on the DAY", x.right(0, 2), first);
            x.days(1);
            CHECK.due("behind it", x.right(0, 2), first == 4 ? 0 : first + 1);
            CHECK.due("FIRST stays", x.right(0, 3), first);
            x.days(5);
            CHECK.due("no further", x.right(0, 2), first == 4 ? 0 : first + 1);
        }
        SoupRights sold = Check.house("h0,0;h0,9;h9,0;h0,0;p8,1,1;");
        CHECK.due("sell(0, 2, 1)", sold.sell(0, 2, 1), 1);
        sold.bind(0, 1);
        days(sold, 2, 15, 14);
        CHECK.due("behind whose it was FIRST", sold.right(0, 2), 2);
        sold.undo();
        sold.undo();
        sold.undo();
        sold.undo();
        sold.give(2, 3, 5);
        CHECK.due("sell(0, 3, 1)", sold.sell(0, 3, 1), 1);
        sold.days(2);
        CHECK.due("behind whose it was FIRST", sold.right(0, 2), 2);
        SoupRights alone = Check.house("h0,0;p8,0,0;");
        alone.days(1);
        CHECK.due("behind the only one the first", alone.right(0, 2), 0);
    }

    private static void bowlsAtMost() {
        CHECK.of("Promise 10, BOWLS are 99 at most, more are lost");
        days(Check.house("h60,0;f19,0,0;f20,0,0;"), 0, 98, 98, 98);
        days(Check.house("h60,0;f20,0,0;f20,0,0;"), 0, 98, 98, 98);
        days(Check.house("h60,0;f20,0,0;f18,0,0;"), 0, 97, 98, 98);
        days(Check.house("h60,0;n20,0,0;t20,0,0;l20,1,0;p20,1,0;"), 0, 98, 97);
    }

    private static void eating() {
        CHECK.of("Promise 10, each HEIR who has a BOWL eats one, HUNGER is 2 less (0 at least)");
        int[][] fed = {{0, 0}, {1, 0}, {2, 0}, {3, 1}, {19, 17}, {20, 18}};
        for (int[] each : fed) {
            SoupRights x = Check.house("h1," + each[0] + ";n1,60,0;");
            x.days(1);
            CHECK.due("HUNGER of " + each[0] + " fed", x.heir(0, 1), each[1]);
            CHECK.due("BOWLS", x.heir(0, 0), 0);
        }
        CHECK.of("Promise 10, else HUNGER is 1 more (20 at most)");
        int[][] unfed = {{0, 1}, {18, 19}, {19, 20}, {20, 20}};
        for (int[] each : unfed) {
            SoupRights x = Check.house("h0," + each[0] + ";n1,60,0;");
            x.days(1);
            CHECK.due("HUNGER of " + each[0] + " unfed", x.heir(0, 1), each[1]);
            CHECK.due("BOWLS", x.heir(0, 0), 0);
        }
        CHECK.of("Promise 10, first each RIGHT, then they eat");
        SoupRights x = Check.house("h0,5;h0,5;n1,0,1;");
        x.days(1);
        CHECK.due("HUNGER of who got one", x.heir(1, 1), 3);
        CHECK.due("HUNGER of who got none", x.heir(0, 1), 6);
        CHECK.due("all BOWLS", x.count(4), 0);
    }

    /** RIGHT 1 is worth 5, 14, 17 and 20 to the four; none bound. */
    private static SoupRights four() {
        return Check.house("h0,5;h60,2;h60,1;h20,0;n1,60,3;n20,3,0;");
    }

    private static void sellForHowMuch() {
        CHECK.of("Promise 11, n is more than its WORTH to the OWNER");
        CHECK.due("sell(1, 1, 4)", four().sell(1, 1, 4), STATE);
        CHECK.due("sell(1, 1, 5)", four().sell(1, 1, 5), STATE);
        CHECK.due("sell(1, 1, 6)", four().sell(1, 1, 6), 6);
        CHECK.of("Promise 11, its WORTH to the other one is n or more");
        CHECK.due("sell(1, 1, 14)", four().sell(1, 1, 14), 14);
        CHECK.due("sell(1, 1, 15)", four().sell(1, 1, 15), STATE);
        CHECK.due("sell(1, 2, 17)", four().sell(1, 2, 17), 17);
        CHECK.due("sell(1, 2, 18)", four().sell(1, 2, 18), STATE);
        CHECK.of("Promise 11, that one has n");
        CHECK.due("sell(1, 3, 20) of 20", four().sell(1, 3, 20), 20);
        SoupRights less = four();
        less.give(3, 0, 1);
        CHECK.due("sell(1, 3, 20) of 19", less.sell(1, 3, 20), STATE);
        CHECK.due("sell(1, 3, 19) of 19", less.sell(1, 3, 19), 20);
        CHECK.due("BOWLS of the buyer", less.heir(3, 0), 0);
        CHECK.of("Promise 11, it is not bound");
        SoupRights bound = four();
        bound.bind(1, 1);
        CHECK.due("sell(1, 1, 6)", bound.sell(1, 1, 6), STATE);
        bound.bind(1, 0);
        bound.bind(0, 1);
        CHECK.due("sell(1, 1, 6), another one is bound", bound.sell(1, 1, 6), 6);
        CHECK.of("Promise 11, none of what is worth as much to both");
        SoupRights alike = Check.house("h5,0;h60,0;n20,3,0;n20,0,0;");
        for (int n = 19; n <= 22; n++) {
            CHECK.due("sell(0, 1, " + n + ")", alike.sell(0, 1, n), STATE);
        }
        CHECK.of("Promise 11, on the DAY it is due HUNGER does not count");
        CHECK.due("sell(1, 1, 20)", Check.house("h5,20;h60,0;n9,9,0;n20,0,0;").sell(1, 1, 20), STATE);
    }

    private static void sellAtMost() {
        CHECK.of("Promise 11, n BOWLS (1 to 99)");
        SoupRights x = Check.house("h60,20;h60,0;h60,0;l12,60,0;l20,60,0;");
        CHECK.due("give(2, 1, 39)", x.give(2, 1, 39), 99);
        for (int n : new int[] {MIN, -1, 0, 100, 101, MAX}) {
            CHECK.due("sell(0, 1, " + n + ")", x.sell(0, 1, n), BAD);
        }
        CHECK.due("sell(0, 1, 88), worth 88 to its OWNER", x.sell(0, 1, 88), STATE);
        CHECK.due("sell(1, 1, 99), worth 160 to its OWNER", x.sell(1, 1, 99), STATE);
        CHECK.of("Promise 11, BOWLS of the seller then (99 at most)");
        CHECK.due("sell(0, 1, 99)", x.sell(0, 1, 99), 99);
        CHECK.due("BOWLS of the seller", x.heir(0, 0), 99);
        CHECK.due("BOWLS of the buyer", x.heir(1, 0), 0);
        CHECK.due("all BOWLS", x.count(4), 120);
        x.undo();
        x.wolves(0);
        x.wolves(0);
        CHECK.due("BOWLS", x.heir(0, 0), 15);
        CHECK.due("sell(0, 1, 89)", x.sell(0, 1, 89), 99);
        x.undo();
        x.wolves(0);
        CHECK.due("sell(0, 1, 89) with 7", x.sell(0, 1, 89), 96);
        x.undo();
        CHECK.due("sell(0, 1, 92) with 7", x.sell(0, 1, 92), 99);
        x.undo();
        CHECK.due("sell(0, 1, 93) with 7", x.sell(0, 1, 93), 99);
        SoupRights one = Check.house("h0,9;h1,0;n1,1,0;");
        CHECK.due("sell(0, 1, 1)", one.sell(0, 1, 1), 1);
    }

    private static void sellRefused() {
        CHECK.of("Promise 11, BAD: to its OWNER, too");
        SoupRights x = four();
        CHECK.due("sell(1, 0, 6)", x.sell(1, 0, 6), BAD);
        CHECK.due("sell(0, 3, 2)", x.sell(0, 3, 2), BAD);
        CHECK.of("Promise 11, BAD ahead of STATE");
        x.bind(1, 1);
        CHECK.due("sell(1, 0, 6) bound", x.sell(1, 0, 6), BAD);
        CHECK.due("sell(1, 1, 0) bound", x.sell(1, 1, 0), BAD);
        CHECK.due("sell(1, 1, 100) bound", x.sell(1, 1, 100), BAD);
        CHECK.due("sell(1, 4, 6) bound", x.sell(1, 4, 6), BAD);
        CHECK.due("sell(1, 5, 6) bound", x.sell(1, 5, 6), BAD);
        CHECK.due("sell(2, 1, 6)", x.sell(2, 1, 6), BAD);
        CHECK.due("sell(7, 1, 6)", x.sell(7, 1, 6), BAD);
        CHECK.due("nothing was sold", x.count(5), 0);
        CHECK.due("whose it is", x.right(1, 2), 0);
        CHECK.due("all BOWLS", x.count(4), 140);
    }

    private static void sellBehindASale() {
        CHECK.of("Promise 11, whose it is sells it, not whose it was FIRST");
        SoupRights x = four();
        CHECK.due("sell(1, 1, 6)", x.sell(1, 1, 6), 6);
        CHECK.due("BOWLS of the buyer", x.heir(1, 0), 54);
        CHECK.due("sell(1, 1, 15) to its OWNER", x.sell(1, 1, 15), BAD);
        CHECK.due("sell(1, 0, 5) to whose it was FIRST", x.sell(1, 0, 5), STATE);
        CHECK.due("sell(1, 2, 6), worth 14 to him", x.sell(1, 2, 6), STATE);
        CHECK.due("sell(1, 2, 14)", x.sell(1, 2, 14), STATE);
        CHECK.due("sell(1, 2, 15)", x.sell(1, 2, 15), 69);
        CHECK.due("sell(1, 3, 17)", x.sell(1, 3, 17), STATE);
        CHECK.due("sell(1, 3, 18)", x.sell(1, 3, 18), 63);
        int[] bowls = {6, 69, 63, 2};
        int[] bits = {0, 0, 0, 3};
        for (int heir = 0; heir < 4; heir++) {
            CHECK.due("BOWLS of " + heir, x.heir(heir, 0), bowls[heir]);
            CHECK.due("RIGHTS of " + heir, x.heir(heir, 2), bits[heir]);
        }
        CHECK.due("how many were sold", x.count(5), 3);
        CHECK.due("ACTS", x.count(6), 3);
        CHECK.due("FIRST", x.right(1, 3), 0);
        CHECK.due("claims()", x.claims(), 2);
        CHECK.due("undo()", x.undo(), 2);
        CHECK.due("whose it is", x.right(1, 2), 2);
        CHECK.due("how many were sold", x.count(5), 2);
    }

    private static void bind() {
        CHECK.of("Promise 12, RIGHTS that are bound (bits)");
        SoupRights x = Check.house("h0,0;n1,0,0;t1,0,0;f1,0,0;l1,0,0;p1,0,0;n1,0,0;n1,0,0;");
        int bits = 0;
        for (int right : new int[] {6, 0, 3, 1, 5, 2, 4}) {
            bits += 1 << right;
            CHECK.due("bind(" + right + ", 1)", x.bind(right, 1), bits);
            CHECK.due("bind(" + right + ", 1) again", x.bind(right, 1), STATE);
        }
        CHECK.due("all of them", bits, 127);
        for (int right = 0; right < 7; right++) {
            bits -= 1 << right;
            CHECK.due("bind(" + right + ", 0)", x.bind(right, 0), bits);
            CHECK.due("bind(" + right + ", 0) again", x.bind(right, 0), STATE);
        }
        CHECK.due("ACTS", x.count(6), 14);
        CHECK.of("Promise 12, STATE: it is so");
        SoupRights y = Check.house("h0,0;n1,0,0;n1,0,0;");
        CHECK.due("bind(0, 0) at first", y.bind(0, 0), STATE);
        CHECK.due("bind(1, 1)", y.bind(1, 1), 2);
        CHECK.due("bind(0, 0), another one is bound", y.bind(0, 0), STATE);
        y.undo();
        CHECK.due("bind(1, 0), undone", y.bind(1, 0), STATE);
        CHECK.of("Promise 12, BAD ahead of STATE");
        for (int on : new int[] {MIN, -1, 2, 256, MAX}) {
            CHECK.due("bind(0, " + on + ")", y.bind(0, on), BAD);
        }
        for (int right : new int[] {MIN, -1, 2, 7, 31, 32, 33, 64, MAX}) {
            CHECK.due("bind(" + right + ", 0)", y.bind(right, 0), BAD);
            CHECK.due("bind(" + right + ", 1)", y.bind(right, 1), BAD);
        }
    }

    private static void give() {
        CHECK.of("Promise 13, n BOWLS (1 to 60)");
        SoupRights x = Check.house("h60,3;h60,4;h0,5;n1,60,0;");
        for (int n : new int[] {MIN, -60, -1, 0, 61, 99, MAX}) {
            CHECK.due("give(0, 2, " + n + ")", x.give(0, 2, n), BAD);
        }
        CHECK.due("give(0, 2, 1)", x.give(0, 2, 1), 1);
        x.undo();
        CHECK.due("give(0, 2, 60)", x.give(0, 2, 60), 60);
        CHECK.due("BOWLS of the giver", x.heir(0, 0), 0);
        CHECK.of("Promise 13, BOWLS of that one then (99 at most)");
        CHECK.due("give(1, 2, 38)", x.give(1, 2, 38), 98);
        CHECK.due("give(1, 2, 1)", x.give(1, 2, 1), 99);
        CHECK.due("give(1, 2, 20), more are lost", x.give(1, 2, 20), 99);
        CHECK.due("BOWLS of the giver", x.heir(1, 0), 1);
        CHECK.due("all BOWLS", x.count(4), 100);
        CHECK.of("Promise 13, STATE: he has not so many");
        CHECK.due("give(1, 2, 2)", x.give(1, 2, 2), STATE);
        CHECK.due("give(1, 2, 1)", x.give(1, 2, 1), 99);
        CHECK.due("give(1, 2, 1) of none", x.give(1, 2, 1), STATE);
        CHECK.due("give(1, 2, 60) of none", x.give(1, 2, 60), STATE);
        CHECK.of("Promise 13, BAD ahead of STATE, alike, too");
        CHECK.due("give(2, 0, 61) of 99", x.give(2, 0, 61), BAD);
        CHECK.due("give(1, 2, 61) of none", x.give(1, 2, 61), BAD);
        CHECK.due("give(1, 1, 1) of none", x.give(1, 1, 1), BAD);
        CHECK.due("give(2, 2, 1)", x.give(2, 2, 1), BAD);
        CHECK.due("give(1, 3, 1) of none", x.give(1, 3, 1), BAD);
        CHECK.due("give(3, 3, 1)", x.give(3, 3, 1), BAD);
        CHECK.due("give(2, 0, 60)", x.give(2, 0, 60), 60);
        CHECK.due("BOWLS of the giver", x.heir(2, 0), 39);
        CHECK.of("Promise 13, nothing but BOWLS of these two");
        int[] hunger = {3, 4, 5};
        for (int heir = 0; heir < 3; heir++) {
            CHECK.due("HUNGER of " + heir, x.heir(heir, 1), hunger[heir]);
        }
        CHECK.due("BOWLS of the third one", x.heir(1, 0), 0);
    }

    private static void wolves() {
        CHECK.of("Promise 14, half of his BOWLS (cut)");
        SoupRights x = Check.house("h60,7;h60,0;n1,60,0;");
        x.give(1, 0, 60);
        int[] halves = {49, 24, 12, 6, 3, 1, 0, 0};
        for (int i = 0; i < halves.length; i++) {
            CHECK.due("wolves(0)", x.wolves(0), halves[i]);
            CHECK.due("BOWLS", x.heir(0, 0), halves[i]);
            CHECK.due("an ACT, of none, too", x.count(6), i + 2);
        }
        CHECK.due("HUNGER", x.heir(0, 1), 7);
        CHECK.due("BOWLS of the other one", x.heir(1, 0), 0);
        CHECK.due("undo()", x.undo(), 8);
        x.undo();
        CHECK.due("BOWLS", x.heir(0, 0), 1);
    }

    private static void rightAndHeir() {
        CHECK.of("Promise 15, VALUE, DUE, OWNER, FIRST, whether bound");
        SoupRights x = Check.house("h0,9;h9,1;n7,3,0;n8,32,1;");
        CHECK.due("sell(0, 1, 1)", x.sell(0, 1, 1), 1);
        x.bind(0, 1);
        x.bind(1, 1);
        x.bind(1, 0);
        int[][] due = {{7, 3, 1, 0, 1}, {8, 32, 1, 1, 0}};
        for (int right = 0; right < 2; right++) {
            for (int what = 0; what < 5; what++) {
                CHECK.due("right(" + right + ", " + what + ")", x.right(right, what), due[right][what]);
            }
        }
        CHECK.of("Promise 15, BAD");
        for (int odd : new int[] {MIN, -1, 5, 256, MAX}) {
            CHECK.due("right(0, " + odd + ")", x.right(0, odd), BAD);
            CHECK.due("right(" + odd + ", 0)", x.right(odd, 0), BAD);
        }
        CHECK.due("right(2, 0)", x.right(2, 0), BAD);
        CHECK.of("Promise 16, BOWLS, HUNGER, RIGHTS (bits): none, all");
        SoupRights y = Check.house("h60,20;h0,0;n1,0,0;n1,0,0;n1,0,0;n1,0,0;n1,0,0;n1,0,0;n1,0,0;");
        int[][] heirs = {{60, 20, 127}, {0, 0, 0}};
        for (int heir = 0; heir < 2; heir++) {
            for (int what = 0; what < 3; what++) {
                CHECK.due("heir(" + heir + ", " + what + ")", y.heir(heir, what), heirs[heir][what]);
            }
        }
        CHECK.of("Promise 16, BAD");
        for (int odd : new int[] {MIN, -1, 3, 256, MAX}) {
            CHECK.due("heir(0, " + odd + ")", y.heir(0, odd), BAD);
            CHECK.due("heir(" + odd + ", 0)", y.heir(odd, 0), BAD);
        }
        CHECK.due("heir(2, 0)", y.heir(2, 0), BAD);
    }

    private static void worthToday() {
        CHECK.of("Promise 17, WORTH by SORT, VALUE, DUE and HUNGER of 0, 1, 9, 19, 20");
        String heirs = "h0,0;h0,1;h0,9;h0,19;h0,20;";
        String[] rights = {
            "n20,1", "t20,1", "f20,3", "l20,8", "l20,9", "l20,10", "p20,60",
            "n20,60", "n1,0", "t3,0", "t1,0", "f1,0", "l1,9", "p1,9",
            "l1,0", "p20,0", "l1,1", "p2,1", "f1,60", "n1,1", "t2,1"};
        int[][] due = {
            {20, 19, 11, 1, 0}, {10, 9, 1, 0, 0}, {60, 57, 33, 3, 0}, {160, 159, 151, 141, 140},
            {180, 179, 171, 161, 160}, {180, 179, 171, 161, 160}, {90, 89, 85, 80, 80},
            {20, 0, 0, 0, 0}, {1, 1, 1, 1, 1}, {1, 1, 1, 1, 1}, {0, 0, 0, 0, 0}, {3, 3, 3, 3, 3},
            {9, 8, 0, 0, 0}, {4, 4, 0, 0, 0},
            {0, 0, 0, 0, 0}, {0, 0, 0, 0, 0}, {1, 0, 0, 0, 0}, {1, 0, 0, 0, 0}, {3, 0, 0, 0, 0},
            {1, 0, 0, 0, 0}, {1, 0, 0, 0, 0}};
        for (int i = 0; i < rights.length; i++) {
            SoupRights x = Check.house(heirs + rights[i] + ",4;");
            for (int heir = 0; heir < 5; heir++) {
                CHECK.due("worth(0, " + heir + ") of " + rights[i], x.worth(0, heir), due[i][heir]);
            }
        }
    }

    private static void worthBehindDue() {
        CHECK.of("Promise 17, WORTH ahead of DUE, on it and behind it, to who is not hungry and who is");
        SoupRights x = Check.house("h60,0;h0,20;n20,3,0;t20,3,0;f20,3,0;l20,3,0;p20,3,0;");
        int[][][] due = {
            {{20, 0}, {10, 0}, {60, 40}, {20, 0}, {10, 0}},
            {{20, 20}, {10, 10}, {60, 60}, {0, 0}, {0, 0}},
            {{0, 0}, {0, 0}, {60, 60}, {0, 0}, {0, 0}},
            {{0, 0}, {0, 0}, {60, 60}, {0, 0}, {0, 0}}};
        x.days(2);
        for (int day = 2; day < 6; day++) {
            CHECK.due("DAY", x.count(3), day);
            for (int right = 0; right < 5; right++) {
                for (int heir = 0; heir < 2; heir++) {
                    CHECK.due("worth(" + right + ", " + heir + ") on DAY " + day, x.worth(right, heir),
                        due[day - 2][right][heir]);
                }
            }
            x.days(1);
        }
        CHECK.of("Promise 17, WORTH to any HEIR, his whose it is, too, bound or not");
        x.bind(2, 1);
        CHECK.due("worth(2, 0)", x.worth(2, 0), 60);
    }
}
