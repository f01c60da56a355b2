import java.util.Arrays;

/** The edges of promises 18 to 36: what is FORETOLD, and IMAGES, a sentence each. */
public final class EdgesOfForetoldTest {
    private static final int NONE = SoupRights.NONE, BAD = SoupRights.BAD, STATE = SoupRights.STATE;
    private static final int NULL = -1000011, PLACE = -1000012;
    private static final int MIN = Integer.MIN_VALUE, MAX = Integer.MAX_VALUE;
    private static final Check CHECK = new Check();

    public static void main(String[] args) {
        ahead();
        aheadOfTheLastDay();
        whose();
        eats();
        starves();
        richest();
        price();
        cheap();
        salesAtTheBounds();
        salesFirst();
        surplus();
        bonds();
        barter();
        barterBowls();
        whatSoldPlaces();
        whatSoldWays();
        whatSoldRefused();
        whoPlaces();
        whoKinds();
        claims();
        peace();
        prowl();
        drawn();
        drawnBehindASale();
        imagesRefused();
        images();
        nothingChanges();
        CHECK.end("EdgesOfForetoldTest");
    }

    /** RIGHT 1 is worth 5, 14, 17 and 20 to the four, RIGHT 0 nothing but to whose it is. */
    private static SoupRights four() {
        return Check.house("h0,5;h60,2;h60,1;h20,0;n1,60,3;n20,3,0;");
    }

    /** The same behind a sale: RIGHT 1 is HEIR 1's, and was 0's FIRST. */
    private static SoupRights fourSold() {
        SoupRights x = four();
        CHECK.due("sell(1, 1, 6)", x.sell(1, 1, 6), 6);
        return x;
    }

    /** Seven RIGHTS that each of four HEIRS would buy for 1. */
    private static SoupRights seven() {
        return Check.house("h0,20;h60,0;h60,0;h60,0;h60,0;n9,1,0;n9,1,0;n9,1,0;n9,1,0;n9,1,0;n9,1,0;n9,1,0;");
    }

    private static void ahead() {
        CHECK.of("Promise 18, AHEAD by n DAYS (0 to 60)");
        SoupRights x = Check.house("h60,20;h0,0;n1,60,1;");
        int[][] due = {{0, 60, 20, 0, 0}, {1, 59, 18, 0, 1}, {9, 51, 2, 0, 9}, {10, 50, 0, 0, 10}, {11, 49, 0, 0, 11},
            {19, 41, 0, 0, 19}, {20, 40, 0, 0, 20}, {21, 39, 0, 0, 20}, {59, 1, 0, 0, 20}, {60, 0, 0, 0, 20}};
        for (int[] each : due) {
            CHECK.due("ahead(0, " + each[0] + ", 0)", x.ahead(0, each[0], 0), each[1]);
            CHECK.due("ahead(0, " + each[0] + ", 1)", x.ahead(0, each[0], 1), each[2]);
            CHECK.due("ahead(1, " + each[0] + ", 0)", x.ahead(1, each[0], 0), each[3]);
            CHECK.due("ahead(1, " + each[0] + ", 1)", x.ahead(1, each[0], 1), each[4]);
        }
        CHECK.due("ahead(0, 61, 0)", x.ahead(0, 61, 0), BAD);
        x.days(1);
        CHECK.due("ahead(1, 60, 1), a DAY later a BOWL comes", x.ahead(1, 60, 1), 18);
        CHECK.due("ahead(1, 59, 1)", x.ahead(1, 59, 1), 20);
        CHECK.of("Promise 18, to whom it is then");
        SoupRights loan = Check.house("h0,9;h0,0;h60,0;l3,2,0;f2,3,0;");
        loan.sell(0, 2, 1);
        int[] bowls = {59, 61, 63, 62, 61};
        for (int n = 0; n < bowls.length; n++) {
            CHECK.due("ahead(2, " + n + ", 0)", loan.ahead(2, n, 0), bowls[n]);
        }
        CHECK.due("ahead(0, 4, 0)", loan.ahead(0, 4, 0), 1);
        CHECK.due("ahead(0, 60, 0)", loan.ahead(0, 60, 0), 57);
    }

    private static void aheadOfTheLastDay() {
        CHECK.of("Promise 18, foretold beyond DAY 999, too");
        SoupRights x = Check.house("h0,0;h0,0;f2,0,0;");
        for (int i = 0; i < 41; i++) {
            x.days(24);
        }
        x.days(15);
        CHECK.due("DAY", x.count(3), 999);
        CHECK.due("ahead(0, 60, 0)", x.ahead(0, 60, 0), 98);
        CHECK.due("ahead(1, 60, 1)", x.ahead(1, 60, 1), 20);
        CHECK.due("whose(0, 60)", x.whose(0, 60), 0);
        CHECK.due("eats(0, 60)", x.eats(0, 60), 60);
        CHECK.due("richest(60)", x.richest(60), 0);
        CHECK.due("cheap(0, 30, 1)", x.cheap(0, 30, 1), 7);
        CHECK.due("peace(0, 1)", x.peace(0, 1), 10);
        CHECK.due("drawn(60, 1, 1)", x.drawn(60, 1, 1), 98);
        CHECK.due("days(1)", x.days(1), SoupRights.FULL);
    }

    private static void whose() {
        CHECK.of("Promise 19, whose a RIGHT is behind 0 to 60 DAYS");
        SoupRights x = Check.house("h0,9;h0,0;h60,0;l1,60,0;p2,60,0;l9,2,0;p9,2,1;n9,2,2;");
        CHECK.due("sell(0, 2, 1)", x.sell(0, 2, 1), 1);
        CHECK.due("sell(1, 2, 5)", x.sell(1, 2, 5), 6);
        CHECK.due("sell(2, 2, 10)", x.sell(2, 2, 10), 16);
        int[][] due = {{2, 2, 2, 1, 2}, {2, 2, 2, 1, 2}, {2, 2, 2, 1, 2}, {2, 2, 0, 2, 2}, {2, 2, 0, 2, 2}};
        for (int n = 0; n < due.length; n++) {
            for (int right = 0; right < 5; right++) {
                CHECK.due("whose(" + right + ", " + n + ")", x.whose(right, n), due[n][right]);
            }
        }
        CHECK.due("whose(0, 60)", x.whose(0, 60), 2);
        CHECK.due("whose(1, 60)", x.whose(1, 60), 2);
        CHECK.due("whose(0, 61)", x.whose(0, 61), BAD);
        x.days(1);
        CHECK.due("whose(0, 59)", x.whose(0, 59), 2);
        CHECK.due("whose(0, 60)", x.whose(0, 60), 0);
        CHECK.due("whose(1, 60)", x.whose(1, 60), 1);
    }

    private static void eats() {
        CHECK.of("Promise 20, how often one eats in the next n DAYS (0 to 60)");
        SoupRights x = Check.house("h60,0;h59,0;h1,0;h0,0;h0,0;f1,59,3;l1,60,4;");
        int[][] due = {{0, 0, 0, 0, 0, 0}, {1, 1, 1, 1, 0, 1}, {2, 2, 2, 1, 0, 2}, {59, 59, 59, 1, 0, 59},
            {60, 60, 59, 1, 1, 60}};
        for (int[] each : due) {
            for (int heir = 0; heir < 5; heir++) {
                CHECK.due("eats(" + heir + ", " + each[0] + ")", x.eats(heir, each[0]), each[heir + 1]);
            }
        }
        CHECK.due("eats(0, 61)", x.eats(0, 61), BAD);
        CHECK.due("eats(0, -1)", x.eats(0, -1), BAD);
    }

    private static void starves(String text, int due) {
        CHECK.due("starves(0) of " + text, Check.house(text).starves(0), due);
    }

    private static void starves() {
        CHECK.of("Promise 21, 0: now");
        starves("h60,20;n1,60,0;", 0);
        starves("h0,20;n1,60,0;", 0);
        CHECK.of("Promise 21, behind how many DAYS HUNGER is 20 first");
        starves("h0,19;n1,60,0;", 1);
        starves("h1,19;n1,60,0;", 4);
        starves("h0,18;n5,2,0;", 2);
        starves("h0,18;n5,1,0;", 17);
        CHECK.of("Promise 21, 60 at most");
        starves("h39,0;n1,60,0;", 59);
        starves("h40,0;n1,60,0;", 60);
        CHECK.of("Promise 21, NONE");
        starves("h41,0;n1,60,0;", NONE);
        starves("h60,19;n1,60,0;", NONE);
        starves("h0,18;f1,0,0;", NONE);
        CHECK.of("Promise 21, of the HEIR that is asked for");
        SoupRights x = Check.house("h0,20;h0,19;h0,0;h60,19;h0,18;n1,60,0;");
        int[] due = {0, 1, 20, NONE, 2};
        for (int heir = 0; heir < 5; heir++) {
            CHECK.due("starves(" + heir + ")", x.starves(heir), due[heir]);
        }
    }

    private static void richest() {
        CHECK.of("Promise 22, who has most BOWLS, of several the first");
        SoupRights x = Check.house("h1,0;h2,0;h2,0;n1,60,0;");
        CHECK.due("richest(0)", x.richest(0), 1);
        CHECK.due("richest(1)", x.richest(1), 1);
        CHECK.due("richest(2)", x.richest(2), 0);
        CHECK.due("richest(60)", x.richest(60), 0);
        CHECK.due("the last one", Check.house("h8,0;h0,0;h8,0;h7,0;h9,0;n1,60,0;").richest(0), 4);
        CHECK.due("the only one", Check.house("h0,0;n1,60,0;").richest(0), 0);
        CHECK.of("Promise 22, behind n DAYS (0 to 60)");
        SoupRights y = Check.house("h5,0;h0,0;f3,2,1;");
        int[] due = {0, 0, 0, 0, 1, 1};
        for (int n = 0; n < due.length; n++) {
            CHECK.due("richest(" + n + ")", y.richest(n), due[n]);
        }
        CHECK.due("richest(59) to come on DAY 59", Check.house("h0,0;h0,0;f3,59,1;").richest(59), 0);
        CHECK.due("richest(60) to come on DAY 59", Check.house("h0,0;h0,0;f3,59,1;").richest(60), 1);
        CHECK.due("richest(61)", y.richest(61), BAD);
        CHECK.due("richest(-1)", y.richest(-1), BAD);
    }

    private static void price() {
        CHECK.of("Promise 23, 1 more than its WORTH to its OWNER");
        SoupRights x = Check.house("h0,0;h0,20;l20,60,0;f20,60,0;n20,60,1;p20,60,1;t20,0,1;t1,0,1;");
        int[] due = {181, 61, 1, 81, 11, 1};
        for (int right = 0; right < due.length; right++) {
            CHECK.due("price(" + right + ")", x.price(right), due[right]);
        }
        CHECK.of("Promise 23, to whose it is, not to whose it was FIRST");
        CHECK.due("price(1) ahead", four().price(1), 6);
        CHECK.due("price(1) behind", fourSold().price(1), 15);
        CHECK.of("Promise 23, PRICE of what is bound, too");
        SoupRights bound = four();
        bound.bind(1, 1);
        CHECK.due("price(1)", bound.price(1), 6);
    }

    private static void cheap(SoupRights x, int n, int when, int least) {
        CHECK.due("cheap(0, " + n + ", 0)", x.cheap(0, n, 0), when);
        CHECK.due("cheap(0, " + n + ", 1)", x.cheap(0, n, 1), least);
    }

    private static void cheap() {
        CHECK.of("Promise 24, now, too, of several the first");
        SoupRights x = Check.house("h60,0;n5,29,0;");
        cheap(x, 0, 0, 6);
        cheap(x, 1, 0, 6);
        cheap(x, 29, 0, 6);
        CHECK.of("Promise 24, the last of 30 DAYS, too");
        cheap(x, 30, 30, 1);
        CHECK.due("cheap(0, 31, 0)", x.cheap(0, 31, 0), BAD);
        cheap(Check.house("h60,0;n5,30,0;"), 30, 0, 6);
        CHECK.of("Promise 24, as hungry as one is then");
        SoupRights y = Check.house("h0,0;n20,5,0;");
        cheap(y, 0, 0, 21);
        cheap(y, 1, 1, 17);
        cheap(y, 2, 2, 15);
        cheap(y, 3, 2, 15);
        cheap(y, 5, 2, 15);
        cheap(y, 6, 6, 1);
        cheap(y, 30, 6, 1);
        CHECK.of("Promise 24, as whose it is then");
        SoupRights sold = Check.house("h0,1;h60,0;n20,5,0;");
        cheap(sold, 5, 2, 12);
        CHECK.due("sell(0, 1, 16)", sold.sell(0, 1, 16), 16);
        cheap(sold, 5, 0, 21);
        cheap(sold, 6, 6, 1);
    }

    private static void sales(String text, int many, int first) {
        SoupRights x = Check.house(text);
        CHECK.due("sales(0) of " + text, x.sales(0), many);
        CHECK.due("sales(1) of " + text, x.sales(1), first);
    }

    private static void salesAtTheBounds() {
        CHECK.of("Promise 25, to whom it can be sold now for PRICE");
        sales("h0,9;h1,0;n1,1,0;", 1, 1);
        sales("h0,9;h0,0;n1,1,0;", 0, NONE);
        sales("h0,9;h1,1;n1,1,0;", 0, NONE);
        sales("h0,1;h2,0;n2,1,0;", 1, 1);
        sales("h0,1;h1,0;n2,1,0;", 0, NONE);
        sales("h0,1;h2,1;n2,1,0;", 0, NONE);
        sales("h0,9;n1,1,0;", 0, NONE);
        CHECK.of("Promise 25, PRICE above 99 can not be paid");
        sales("h60,20;h60,0;l20,60,0;", 0, NONE);
    }

    private static void salesFirst() {
        CHECK.of("Promise 25, how many; the first, 10 times the RIGHT, and the HEIR");
        sales("h0,9;h0,9;h0,9;h0,9;h1,0;n1,60,4;n1,60,4;n1,60,4;n1,60,4;n1,60,4;n1,60,4;n1,1,0;", 1, 64);
        sales("h1,0;h0,9;n1,1,1;", 1, 0);
        SoupRights x = seven();
        CHECK.due("sales(0)", x.sales(0), 28);
        CHECK.due("sales(1)", x.sales(1), 1);
        x.bind(0, 1);
        CHECK.due("sales(0), one bound", x.sales(0), 24);
        CHECK.due("sales(1), one bound", x.sales(1), 11);
        CHECK.of("Promise 25, by whose it is, not whose it was FIRST");
        SoupRights y = fourSold();
        CHECK.due("sales(0)", y.sales(0), 2);
        CHECK.due("sales(1)", y.sales(1), 12);
        y.sell(1, 2, 15);
        CHECK.due("sales(0)", y.sales(0), 1);
        CHECK.due("sales(1)", y.sales(1), 13);
        y.sell(1, 3, 18);
        CHECK.due("sales(0)", y.sales(0), 0);
        CHECK.due("sales(1)", y.sales(1), NONE);
    }

    private static void surplus() {
        CHECK.of("Promise 26, WORTH to him less that to its OWNER (1000 more)");
        SoupRights x = Check.house("h0,0;h0,20;h0,0;f20,60,0;f20,60,1;l20,9,0;l20,9,1;");
        CHECK.due("surplus(0, 1), least", x.surplus(0, 1), 940);
        CHECK.due("surplus(0, 2), alike", x.surplus(0, 2), 1000);
        CHECK.due("surplus(1, 0), greatest", x.surplus(1, 0), 1060);
        CHECK.due("surplus(2, 1)", x.surplus(2, 1), 980);
        CHECK.due("surplus(3, 2)", x.surplus(3, 2), 1020);
        CHECK.of("Promise 26, BAD: its OWNER, too, but not whose it was FIRST");
        CHECK.due("surplus(0, 0)", x.surplus(0, 0), BAD);
        CHECK.due("surplus(1, 1)", x.surplus(1, 1), BAD);
        SoupRights sold = fourSold();
        CHECK.due("surplus(1, 0)", sold.surplus(1, 0), 991);
        CHECK.due("surplus(1, 1)", sold.surplus(1, 1), BAD);
        CHECK.due("surplus(1, 2)", sold.surplus(1, 2), 1003);
        CHECK.due("surplus(1, 3)", sold.surplus(1, 3), 1006);
        CHECK.of("Promise 26, of what is bound, too");
        sold.bind(1, 1);
        CHECK.due("surplus(1, 3)", sold.surplus(1, 3), 1006);
    }

    private static void bonds(SoupRights x, int heir, int many, int bits) {
        CHECK.due("bonds(" + heir + ", 0)", x.bonds(heir, 0), many);
        CHECK.due("bonds(" + heir + ", 1)", x.bonds(heir, 1), bits);
    }

    private static void bonds() {
        CHECK.of("Promise 27, all of his, and none of who has none");
        SoupRights x = seven();
        bonds(x, 0, 7, 127);
        for (int heir = 1; heir < 5; heir++) {
            bonds(x, heir, 0, 0);
        }
        CHECK.of("Promise 27, the fewest: not what is bound");
        x.bind(3, 1);
        bonds(x, 0, 6, 119);
        CHECK.of("Promise 27, the fewest: not what can not be sold");
        bonds(Check.house("h0,20;h60,1;n9,1,0;n9,60,0;n9,0,0;n9,1,0;n9,1,1;"), 0, 2, 9);
        CHECK.of("Promise 27, so that none of his can be sold");
        for (int right = 0; right < 7; right++) {
            x.bind(right, 1);
        }
        bonds(x, 0, 0, 0);
        CHECK.due("sales(0)", x.sales(0), 0);
        CHECK.of("Promise 27, of whose it is, not of whose it was FIRST");
        SoupRights y = fourSold();
        bonds(y, 0, 0, 0);
        bonds(y, 1, 1, 2);
        bonds(y, 3, 0, 0);
    }

    private static void barter(SoupRights x, int n, int sum, int first) {
        CHECK.due("barter(" + n + ", 0)", x.barter(n, 0), sum);
        CHECK.due("barter(" + n + ", 1)", x.barter(n, 1), first);
    }

    private static void barter() {
        CHECK.of("Promise 28, rows of 1 to 3 sales, one behind another, each for PRICE as it is then");
        SoupRights x = four();
        barter(x, 1, 15, 13);
        barter(x, 2, 15, 11);
        barter(x, 3, 15, 11);
        CHECK.of("Promise 28, as whose it is now");
        SoupRights sold = fourSold();
        barter(sold, 1, 6, 13);
        barter(sold, 2, 6, 12);
        CHECK.of("Promise 28, NONE: there is no such row");
        barter(sold, 3, NONE, NONE);
        x.bind(1, 1);
        for (int n = 1; n <= 3; n++) {
            barter(x, n, NONE, NONE);
            barter(Check.house("h60,0;n9,1,0;"), n, NONE, NONE);
        }
        CHECK.of("Promise 28, of several the first");
        barter(seven(), 1, 9, 1);
        barter(seven(), 2, 18, 1);
        barter(seven(), 3, 27, 1);
        CHECK.of("Promise 28, n (1 to 3)");
        for (int n : new int[] {MIN, -1, 0, 4, MAX}) {
            CHECK.due("barter(" + n + ", 0)", sold.barter(n, 0), BAD);
        }
    }

    private static void barterBowls() {
        CHECK.of("Promise 28, as each can be then: BOWLS that a sale brought pay for the next one");
        // 0 sells to 1 for 1; with that BOWL he buys from 2
        barter(Check.house("h0,9;h1,0;h0,20;n5,1,0;n7,0,0;f1,9,2;"), 1, 5, 1);
        barter(Check.house("h0,1;h9,0;h0,20;n5,1,0;n6,4,2;"), 1, 6, 11);
        barter(Check.house("h0,1;h9,0;h0,20;n5,1,0;n6,4,2;"), 2, 7, 1);
        // 5 of 0's for 5, then 0 can buy for 1, to whom it is worth 2
        barter(Check.house("h0,1;h5,0;h0,20;n5,1,0;n6,4,2;"), 1, 6, 11);
        barter(Check.house("h0,1;h5,0;h0,20;n5,1,0;n6,4,2;"), 2, 3, 1);
        CHECK.of("Promise 28, as each can be then: what was paid is gone");
        barter(Check.house("h0,20;h2,0;n9,1,0;n8,1,0;n7,1,0;"), 1, 9, 1);
        barter(Check.house("h0,20;h2,0;n9,1,0;n8,1,0;n7,1,0;"), 2, 17, 1);
        barter(Check.house("h0,20;h2,0;n9,1,0;n8,1,0;n7,1,0;"), 3, NONE, NONE);
        barter(Check.house("h0,20;h3,0;n7,1,0;n8,1,0;n9,1,0;"), 3, 24, 1);
        barter(Check.house("h0,20;h3,0;n7,1,0;n8,1,0;n9,1,0;"), 2, 17, 11);
        barter(Check.house("h0,20;h3,0;n7,1,0;n8,1,0;n9,1,0;"), 1, 9, 21);
    }

    private static void whatSoldPlaces() {
        CHECK.of("Promise 29, as many ITEMS as HEIRS of a ROW from i on");
        SoupRights x = four();
        x.row(0, 2, 40);
        int[] told = {6, 54, 60, 20};
        for (int i : new int[] {0, 1, 36}) {
            x.row(0, 2, 40);
            for (int k = 0; k < 4; k++) {
                x.set(0, i + k, told[k]);
            }
            CHECK.due("whatSold(0, " + i + ", 0)", x.whatSold(0, i, 0), 1);
            CHECK.due("whatSold(0, " + i + ", 1)", x.whatSold(0, i, 1), 11);
        }
        CHECK.of("Promise 29, PLACE");
        for (int i : new int[] {MIN, MIN + 4, -4, -1, 37, 38, 39, 40, 41, MAX - 4, MAX - 3, MAX}) {
            CHECK.due("whatSold(0, " + i + ", 0)", x.whatSold(0, i, 0), PLACE);
        }
        for (int size = 0; size < 6; size++) {
            x.row(1, 0, size);
            CHECK.due("whatSold(1, 0, 0) of " + size, x.whatSold(1, 0, 0), size < 4 ? PLACE : 0);
            CHECK.due("whatSold(1, 1, 1) of " + size, x.whatSold(1, 1, 1), size < 5 ? PLACE : NONE);
        }
    }

    private static void ways(SoupRights x, int many, int first, int... told) {
        String row = Arrays.toString(told);
        for (int lane = 0; lane < 3; lane++) {
            Check.row(x, 3, lane, told);
            CHECK.due("how many for " + row, x.whatSold(3, 0, 0), many);
            CHECK.due("the first for " + row, x.whatSold(3, 0, 1), first);
        }
    }

    private static void whatSoldWays() {
        CHECK.of("Promise 29, behind one sale now, as it can be");
        ways(four(), 0, NONE, 0, 60, 60, 20);
        ways(four(), 0, NONE, 5, 55, 60, 20);
        ways(four(), 1, 11, 6, 54, 60, 20);
        ways(four(), 1, 11, 14, 46, 60, 20);
        ways(four(), 0, NONE, 15, 45, 60, 20);
        ways(four(), 1, 12, 17, 60, 43, 20);
        ways(four(), 0, NONE, 18, 60, 42, 20);
        ways(four(), 1, 13, 20, 60, 60, 0);
        ways(four(), 0, NONE, 21, 60, 60, -1);
        ways(four(), 0, NONE, 6, 54, 60, 21);
        ways(four(), 0, NONE, 7, 54, 60, 20);
        ways(four(), 0, NONE, 6, 54, 59, 20);
        CHECK.of("Promise 29, as whose it is now");
        SoupRights sold = fourSold();
        ways(sold, 1, 12, 6, 69, 45, 20);
        ways(sold, 0, NONE, 6, 68, 46, 20);
        ways(sold, 0, NONE, 21, 54, 45, 20);
        CHECK.of("Promise 29, ways of several RIGHTS");
        ways(seven(), 7, 4, 1, 60, 60, 60, 59);
        ways(seven(), 7, 1, 9, 51, 60, 60, 60);
        ways(seven(), 0, NONE, 2, 59, 59, 60, 60);
        SoupRights bound = seven();
        bound.bind(0, 1);
        ways(bound, 6, 14, 1, 60, 60, 60, 59);
        CHECK.of("Promise 29, the seller has 99 at most");
        SoupRights rich = Check.house("h60,20;h60,0;h60,0;l12,60,0;");
        rich.give(2, 1, 39);
        ways(rich, 1, 1, 99, 0, 21);
        ways(rich, 1, 1, 99, 10, 21);
        ways(rich, 0, NONE, 99, 11, 21);
        CHECK.of("Promise 29, of one HEIR alone");
        ways(Check.house("h5,20;n9,1,0;"), 0, NONE, 5);
        ways(Check.house("h5,20;n9,1,0;"), 0, NONE, 4);
        CHECK.of("Promise 29, ITEMS over the whole range of an int");
        SoupRights x = four();
        for (int odd : new int[] {MIN, MIN + 20, MIN + 60, MIN + 61, -2147483587, MAX, MAX - 60}) {
            Check.row(x, 3, 2, odd, odd, odd, odd);
            CHECK.due("four of " + odd, x.whatSold(3, 0, 0), 0);
            Check.row(x, 3, 2, 6, odd, 60, 20);
            CHECK.due("one of " + odd, x.whatSold(3, 0, 1), NONE);
        }
    }

    private static void whatSoldRefused() {
        CHECK.of("Promise 29, BAD: ROW, what, ahead of NULL and PLACE");
        SoupRights x = four();
        CHECK.due("whatSold(8, 0, 0)", x.whatSold(8, 0, 0), BAD);
        CHECK.due("whatSold(-1, 99, 0)", x.whatSold(-1, 99, 0), BAD);
        CHECK.due("whatSold(0, 0, 2)", x.whatSold(0, 0, 2), BAD);
        CHECK.due("whatSold(0, 0, -1)", x.whatSold(0, 0, -1), BAD);
        x.row(0, 0, 4);
        CHECK.due("whatSold(0, 1, 2)", x.whatSold(0, 1, 2), BAD);
        CHECK.of("Promise 29, NULL ahead of PLACE");
        CHECK.due("whatSold(1, 0, 0)", x.whatSold(1, 0, 0), NULL);
        CHECK.due("whatSold(1, -1, 0)", x.whatSold(1, -1, 0), NULL);
        CHECK.of("Promise 29, STATE: no HOUSE, ahead of BAD, NULL and PLACE");
        SoupRights none = new SoupRights();
        none.row(0, 0, 0);
        for (int row : new int[] {MIN, -1, 0, 1, 8, MAX}) {
            for (int what : new int[] {MIN, -1, 0, 1, 2, MAX}) {
                CHECK.due("whatSold(" + row + ", 0, " + what + ")", none.whatSold(row, 0, what), STATE);
            }
        }
    }

    private static void whoPlaces() {
        CHECK.of("Promise 30, n ITEMS of a ROW from i on, n DAYS (1 to 12)");
        SoupRights x = Check.house("h40,0;n1,60,0;");
        x.row(0, 0, 40);
        for (int k = 0; k < 40; k++) {
            x.set(0, k, 67 - k);
        }
        // BOWLS behind the DAYS are 39, 38, ..: from ITEM 28 on
        CHECK.due("who(0, 0, 28, 12)", x.who(0, 0, 28, 12), 14);
        CHECK.due("who(0, 0, 28, 1)", x.who(0, 0, 28, 1), 14);
        CHECK.due("who(0, 0, 27, 12), each DAY brings 1", x.who(0, 0, 27, 12), 0);
        CHECK.due("who(0, 0, 39, 1)", x.who(0, 0, 39, 1), 0);
        CHECK.of("Promise 30, PLACE");
        for (int i : new int[] {MIN, -1, 29, 30, 40, MAX - 12, MAX - 11, MAX}) {
            CHECK.due("who(0, 0, " + i + ", 12)", x.who(0, 0, i, 12), PLACE);
        }
        for (int i : new int[] {MIN, -1, 40, 41, MAX}) {
            CHECK.due("who(0, 0, " + i + ", 1)", x.who(0, 0, i, 1), PLACE);
        }
        x.row(1, 0, 0);
        CHECK.due("who(0, 1, 0, 1) of an empty ROW", x.who(0, 1, 0, 1), PLACE);
        CHECK.of("Promise 30, BAD: RIGHT, ROW, n, ahead of NULL and PLACE");
        CHECK.due("who(1, 2, 0, 1)", x.who(1, 2, 0, 1), BAD);
        CHECK.due("who(0, 8, 0, 1)", x.who(0, 8, 0, 1), BAD);
        for (int n : new int[] {MIN, -1, 0, 13, 40, MAX}) {
            CHECK.due("who(0, 2, 0, " + n + ")", x.who(0, 2, 0, n), BAD);
            CHECK.due("who(0, 0, 41, " + n + ")", x.who(0, 0, 41, n), BAD);
        }
        CHECK.of("Promise 30, NULL ahead of PLACE");
        CHECK.due("who(0, 2, -1, 1)", x.who(0, 2, -1, 1), NULL);
        CHECK.due("who(0, 2, 40, 12)", x.who(0, 2, 40, 12), NULL);
    }

    private static void kinds(SoupRights x, int right, int bits, int... told) {
        for (int lane = 0; lane < 3; lane++) {
            Check.row(x, 3, lane, told);
            CHECK.due("who(" + right + ", ..) for " + Arrays.toString(told),
                x.who(right, 3, 0, told.length), bits);
        }
    }

    private static void whoKinds() {
        CHECK.of("Promise 30, KINDS (bits 1 to 5) by which it is so");
        SoupRights x = Check.house("h0,0;h0,0;p7,1,0;n7,60,0;");
        kinds(x, 0, 2 + 4 + 8, 0);
        kinds(x, 0, 16 + 32, 6);
        kinds(x, 0, 2, 0, 6, 5);
        kinds(x, 0, 4, 0, 5, 4);
        kinds(x, 0, 8, 0, 6, 12);
        kinds(x, 0, 16 + 32, 6, 5, 4);
        kinds(x, 0, 2 + 8, 0, 6);
        CHECK.of("Promise 30, none of them");
        kinds(x, 0, 0, 1);
        kinds(x, 0, 0, 0, 6, 6);
        kinds(x, 0, 0, -1);
        CHECK.of("Promise 30, all of them");
        kinds(Check.house("h60,0;f20,0,0;f20,0,0;n5,60,0;"), 2, 62, 98, 98, 98, 98, 98, 98, 98, 98, 98, 98, 98, 98);
        CHECK.of("Promise 30, its KIND alone is another one, not that of the others");
        SoupRights y = Check.house("h0,0;l3,2,0;n1,60,0;");
        kinds(y, 1, 2 + 4 + 8, 2, 4, 3);
        kinds(y, 1, 16 + 32, 3, 6, 6);
        CHECK.of("Promise 30, of who is OWNER now, not of whose it was FIRST");
        SoupRights sold = Check.house("h0,9;h9,0;t8,1,0;");
        CHECK.due("sell(0, 1, 1)", sold.sell(0, 1, 1), 1);
        kinds(sold, 0, 4, 7, 10);
        kinds(sold, 0, 2, 7, 14, 13);
        kinds(sold, 0, 8, 7, 14, 21);
        kinds(sold, 0, 16 + 32, 15, 14, 13);
        CHECK.due("kind(0) is as told", sold.kind(0), 2);
        CHECK.of("Promise 30, from DAY on");
        SoupRights later = Check.house("h0,0;n7,2,0;");
        later.days(2);
        kinds(later, 0, 2 + 8, 6);
        kinds(later, 0, 4, 5);
        kinds(later, 0, 16 + 32, 0);
        later.days(1);
        kinds(later, 0, 2 + 4 + 16 + 32, 5, 4);
        kinds(later, 0, 8, 12, 18);
    }

    private static void claims() {
        CHECK.of("Promise 31, STATE: no HOUSE");
        CHECK.due("claims()", new SoupRights().claims(), STATE);
        CHECK.of("Promise 31, RIGHTS (bits) whose they are not FIRST");
        SoupRights x = seven();
        CHECK.due("claims(), none", x.claims(), 0);
        int bits = 0;
        for (int right : new int[] {6, 0, 3, 2, 5, 1, 4}) {
            x.sell(right, 1 + right % 4, 1);
            bits += 1 << right;
            CHECK.due("claims()", x.claims(), bits);
        }
        CHECK.due("claims(), all", bits, 127);
        CHECK.due("nothing is left to 0", x.heir(0, 2), 0);
        CHECK.of("Promise 31, behind DUE of a loan, a proxy");
        SoupRights y = Check.house("h0,9;h9,0;l9,1,0;p9,1,1;p9,1,0;");
        y.sell(0, 1, 1);
        CHECK.due("claims() ahead", y.claims(), 1);
        y.days(1);
        CHECK.due("claims() on the DAY", y.claims(), 1);
        y.days(1);
        CHECK.due("claims() behind it", y.claims(), 6);
        SoupRights alone = Check.house("h0,0;p1,0,0;");
        alone.days(1);
        CHECK.due("claims() of a proxy of one HEIR", alone.claims(), 0);
    }

    private static void peace(String text, int due) {
        CHECK.due("peace(0, 1) of " + text, Check.house(text).peace(0, 1), due);
    }

    private static void peace() {
        CHECK.of("Promise 32, 0 BOWLS: HUNGER is 0 as it is");
        peace("h0,0;h10,20;n1,60,0;", 0);
        peace("h60,0;h60,20;n1,60,0;", 0);
        peace("h0,20;h0,0;f1,0,1;", 0);
        CHECK.of("Promise 32, the least n of BOWLS");
        peace("h60,0;h9,20;n1,60,0;", 1);
        peace("h60,0;h0,20;n1,60,0;", 10);
        peace("h60,0;h0,0;n1,60,0;", 10);
        peace("h60,0;h0,0;n1,9,1;", 7);
        peace("h60,0;h0,0;n2,8,1;", 4);
        CHECK.of("Promise 32, the first one must have them");
        peace("h10,0;h0,20;n1,60,0;", 10);
        peace("h9,0;h0,20;n1,60,0;", NONE);
        peace("h0,0;h9,20;n1,60,0;", NONE);
        peace("h1,0;h9,20;n1,60,0;", 1);
        peace("h9,0;h0,20;f20,0,0;", NONE);
        CHECK.of("Promise 32, HUNGER of the other one, not of him who gives");
        SoupRights x = Check.house("h12,20;h0,0;h60,0;n1,60,0;");
        CHECK.due("peace(0, 1)", x.peace(0, 1), 10);
        CHECK.due("peace(1, 0)", x.peace(1, 0), 0);
        CHECK.due("peace(1, 2)", x.peace(1, 2), 0);
        CHECK.due("peace(2, 1)", x.peace(2, 1), 10);
        CHECK.of("Promise 32, behind 10 DAYS, not on the way");
        peace("h60,0;h9,0;n1,60,0;", 1);
        CHECK.of("Promise 32, BAD: alike, too");
        for (int heir = 0; heir < 3; heir++) {
            CHECK.due("peace(" + heir + ", " + heir + ")", x.peace(heir, heir), BAD);
        }
        CHECK.due("peace(3, 3)", x.peace(3, 3), BAD);
    }

    private static void likely(String text, int k, int p, long above, long below) {
        SoupRights x = Check.house(text);
        CHECK.due("prowl(" + k + ", " + p + ", 0) of " + text, x.prowl(k, p, 0), above);
        CHECK.due("prowl(" + k + ", " + p + ", 1) of " + text, x.prowl(k, p, 1), below);
    }

    private static void prowl() {
        String five = "h1,0;h1,0;h1,0;h1,0;h1,0;n1,60,0;";
        CHECK.of("Promise 33, k (0 to 5) HEIRS, or more");
        likely(five, 0, 5, 1, 1);
        likely(five, 1, 5, 31, 32);
        likely(five, 2, 5, 13, 16);
        likely(five, 3, 5, 1, 2);
        likely(five, 4, 5, 3, 16);
        likely(five, 5, 5, 1, 32);
        CHECK.of("Promise 33, p of 10 (0 to 10)");
        likely(five, 5, 0, 1, 1);
        likely(five, 5, 1, 59049, 100000);
        likely(five, 5, 2, 1024, 3125);
        likely(five, 5, 9, 1, 100000);
        likely(five, 1, 9, 40951, 100000);
        likely(five, 1, 10, 0, 1);
        likely(five, 0, 10, 1, 1);
        likely(five, 0, 0, 1, 1);
        CHECK.of("Promise 33, more than there are HEIRS: 0 by 1");
        likely("h60,0;n1,60,0;", 2, 0, 0, 1);
        likely("h60,0;n1,60,0;", 5, 5, 0, 1);
        likely("h60,0;n1,60,0;", 1, 5, 1, 1);
        CHECK.of("Promise 33, who has 0, 1, 2 BOWLS");
        likely("h0,0;n1,60,0;", 1, 0, 0, 1);
        likely("h0,0;n1,60,0;", 1, 7, 0, 1);
        likely("h1,0;n1,60,0;", 1, 7, 3, 10);
        likely("h2,0;n1,60,0;", 1, 7, 1, 1);
        likely("h0,0;h1,0;h2,0;n1,60,0;", 1, 7, 1, 1);
        likely("h0,0;h1,0;h2,0;n1,60,0;", 2, 7, 3, 10);
        likely("h0,0;h1,0;h2,0;n1,60,0;", 3, 7, 0, 1);
        likely("h1,0;h1,0;h1,0;n1,60,0;", 2, 3, 98, 125);
        CHECK.of("Promise 33, ahead of the DAY");
        likely("h1,0;n1,0,0;", 1, 10, 1, 1);
        likely("h0,0;h1,0;n1,0,0;", 2, 4, 3, 5);
        SoupRights x = Check.house(five);
        String before = Check.seen(x);
        x.prowl(3, 5, 0);
        CHECK.same("nothing changes", Check.seen(x), before);
    }

    private static final String DRAWN = "h0,20;h0,0;h10,3;h5,0;h60,0;"
        + "n20,5,0;n1,60,1;n1,60,3;n1,60,3;n1,60,3;n1,60,3;n1,60,3;";

    private static void drawn() {
        CHECK.of("Promise 34, YEARS of n DAYS");
        // X is 16807, 282475249, 1622650073, ..: RIGHT 0 to 2 for 1, then to 4 for 17, then RIGHTS 2 and 6 to 3, whose
        // they are, then 6 to 0 and to 2, who would not pay 2 for it
        SoupRights x = Check.house(DRAWN);
        int[] sold = {0, 1, 2, 2, 2, 2, 2};
        int[] bowls = {75, 71, 68, 65, 62, 59, 77};
        for (int n = 0; n < sold.length; n++) {
            CHECK.due("drawn(" + n + ", 1, 0)", x.drawn(n, 1, 0), sold[n]);
            CHECK.due("drawn(" + n + ", 1, 1)", x.drawn(n, 1, 1), bowls[n]);
        }
        CHECK.due("nothing was sold", x.count(5), 0);
        CHECK.due("all BOWLS", x.count(4), 75);
        CHECK.of("Promise 34, a SEED (1 to 999999)");
        // X is 1774597664, RIGHT 0 by 7, HEIR 4 by 5
        CHECK.due("drawn(1, 999999, 0)", x.drawn(1, 999999, 0), 1);
        CHECK.due("drawn(1, 999999, 1)", x.drawn(1, 999999, 1), 71);
        // X is 33614, RIGHT 0, HEIR 4, too
        CHECK.due("drawn(1, 2, 0)", x.drawn(1, 2, 0), 1);
        for (int seed : new int[] {MIN, -1, 0, 1000000, MAX}) {
            CHECK.due("drawn(1, " + seed + ", 0)", x.drawn(1, seed, 0), BAD);
        }
        CHECK.of("Promise 34, n DAYS (0 to 60)");
        CHECK.due("drawn(60, 1, 1), all but 98 of 4's eaten", Check.house("h0,0;f20,0,0;").drawn(60, 1, 1), 98);
        CHECK.due("drawn(61, 1, 1)", x.drawn(61, 1, 1), BAD);
        CHECK.due("drawn(-1, 1, 1)", x.drawn(-1, 1, 1), BAD);
        CHECK.of("Promise 34, what is bound is not sold");
        x.bind(0, 1);
        CHECK.due("drawn(6, 1, 0)", x.drawn(6, 1, 0), 0);
        CHECK.of("Promise 34, of one HEIR and one RIGHT: to its OWNER, no");
        CHECK.due("drawn(60, 7, 0)", Check.house("h9,9;n9,9,0;").drawn(60, 7, 0), 0);
    }

    private static void drawnBehindASale() {
        CHECK.of("Promise 34, how many were sold in these YEARS");
        SoupRights x = Check.house(DRAWN);
        CHECK.due("sell(0, 2, 1)", x.sell(0, 2, 1), 1);
        CHECK.due("drawn(1, 1, 0), to its OWNER", x.drawn(1, 1, 0), 0);
        CHECK.due("drawn(2, 1, 0)", x.drawn(2, 1, 0), 1);
        CHECK.due("drawn(6, 1, 1)", x.drawn(6, 1, 1), 77);
        CHECK.due("count(5)", x.count(5), 1);
    }

    private static void imagesRefused() {
        CHECK.of("Promise 35, BAD ahead of STATE: no HOUSE");
        SoupRights x = new SoupRights();
        for (int k : new int[] {MIN, -1, 2, 256, MAX}) {
            CHECK.due("image(" + k + ")", x.image(k), BAD);
            CHECK.due("restore(" + k + ")", x.restore(k), BAD);
        }
        CHECK.due("image(0)", x.image(0), STATE);
        CHECK.due("image(1)", x.image(1), STATE);
        CHECK.of("Promise 36, STATE: none was kept");
        CHECK.due("restore(0)", x.restore(0), STATE);
        CHECK.due("restore(1)", x.restore(1), STATE);
        Check.read(x, "h5,0;n1,0,0;");
        CHECK.due("restore(0) behind a HOUSE", x.restore(0), STATE);
        CHECK.due("image(0)", x.image(0), 1);
        CHECK.due("restore(1), the other one was kept", x.restore(1), STATE);
        CHECK.due("restore(0)", x.restore(0), 1);
        for (int k : new int[] {MIN, -1, 2, 256, MAX}) {
            CHECK.due("image(" + k + ")", x.image(k), BAD);
            CHECK.due("restore(" + k + ")", x.restore(k), BAD);
        }
        CHECK.of("Promise 36, what is refused leaves ACTS");
        x.wolves(0);
        x.restore(1);
        x.restore(2);
        CHECK.due("count(6)", x.count(6), 1);
    }

    private static void images() {
        CHECK.of("Promise 35, an IMAGE is kept, and nothing changes");
        SoupRights x = fourSold();
        x.bind(0, 1);
        x.days(3);
        String kept = Check.seen(x);
        CHECK.due("image(0)", x.image(0), 1);
        CHECK.same("what is seen", Check.seen(x), kept);
        CHECK.due("ACTS", x.count(6), 5);
        CHECK.of("Promise 36, the HOUSE is as an IMAGE kept it, but no ACT can be undone");
        String restored = Check.seen(withoutActs(3, true));
        x.wolves(1);
        x.bind(1, 1);
        x.days(24);
        CHECK.due("restore(0)", x.restore(0), 1);
        CHECK.same("what is seen", Check.seen(x), restored);
        CHECK.due("count(6)", x.count(6), 0);
        CHECK.due("undo()", x.undo(), STATE);
        CHECK.due("how many were sold", x.count(5), 1);
        CHECK.due("claims()", x.claims(), 2);
        CHECK.due("DAY", x.count(3), 3);
        CHECK.due("bound", x.right(0, 4), 1);
        CHECK.of("Promise 36, more than once, whatever was done between");
        for (int i = 0; i < 3; i++) {
            x.days(2);
            x.give(1, 0, 5);
            x.bind(0, 0);
            CHECK.due("restore(0)", x.restore(0), 1);
            CHECK.same("what is seen", Check.seen(x), restored);
        }
        CHECK.of("Promise 36, another HOUSE, or a FAULT, leaves IMAGES");
        Check.read(x, "h7,7;f2,2,0;");
        CHECK.due("image(1)", x.image(1), 1);
        Check.read(x, "h");
        CHECK.due("restore(0)", x.restore(0), 1);
        CHECK.due("kind(1)", x.kind(1), 1);
        CHECK.due("HEIRS", x.count(1), 4);
        CHECK.due("RIGHTS", x.count(2), 2);
        CHECK.due("restore(1)", x.restore(1), 1);
        CHECK.due("kind(0)", x.kind(0), 3);
        CHECK.due("kind(1)", x.kind(1), BAD);
        CHECK.due("HEIRS", x.count(1), 1);
        CHECK.of("Promise 35, an IMAGE in place of the one before");
        CHECK.due("image(0)", x.image(0), 1);
        x.days(1);
        CHECK.due("image(1)", x.image(1), 1);
        x.restore(0);
        CHECK.due("DAY of the one", x.count(3), 0);
        CHECK.due("kind(0) of the one", x.kind(0), 3);
        x.restore(1);
        CHECK.due("DAY of the other", x.count(3), 1);
        CHECK.of("Promise 36, ROWS, the tape, THE TRACE are no part of it");
        x.row(4, 0, 9);
        x.feed('h');
        x.ask(0, 1);
        x.restore(0);
        CHECK.due("count(0)", x.count(0), 1);
        CHECK.due("count(7)", x.count(7), 1);
        CHECK.due("trace(0)", x.trace(0), 22);
    }

    /** What fourSold() is behind some DAYS, by an IMAGE at once, so that no ACT is left. */
    private static SoupRights withoutActs(int days, boolean bound) {
        SoupRights x = fourSold();
        if (bound) {
            x.bind(0, 1);
        }
        x.days(days);
        x.image(1);
        x.restore(1);
        return x;
    }

    /** All that is foretold, at the bounds of its numbers, while all that can be seen, or is hidden, stays. */
    private static void nothingChanges() {
        CHECK.of("Promises 18 to 34, nothing changes");
        SoupRights x = busy();
        for (int n : new int[] {0, 1, 12, 30, 59, 60}) {
            for (int heir = 0; heir < 3; heir++) {
                x.ahead(heir, n, 0);
                x.ahead(heir, n, 1);
                x.eats(heir, n);
                x.starves(heir);
                x.bonds(heir, 1);
                x.peace(heir, (heir + 1) % 3);
            }
            for (int right = 0; right < 5; right++) {
                x.whose(right, n);
                x.price(right);
                x.cheap(right, n / 2, 0);
                x.surplus(right, n % 3);
                x.who(right, 0, 0, n);
            }
            x.richest(n);
            x.drawn(n, 1 + n * 1000, 0);
            x.drawn(n, 1 + n * 1000, 1);
        }
        for (int k = 0; k < 6; k++) {
            x.prowl(k, 5, 0);
            x.barter(k, 0);
            x.sales(k);
            x.claims();
            x.whatSold(0, k, 0);
        }
        x.as(0, 0);
        SoupRights same = busy();
        same.as(0, 0);
        CHECK.same("all of it", Check.bare(x), Check.bare(same));
    }

    private static SoupRights busy() {
        SoupRights x = Check.house("h3,9;h30,0;h4,5;n8,4,0;l9,6,0;p7,5,2;t9,4,2;f3,2,1;");
        Check.row(x, 0, 2, 1, 2, 3, 4, 5, 6, 7, 8, 9, 10, 11, 12);
        x.sell(0, 1, 1);
        x.image(0);
        x.bind(3, 1);
        x.days(1);
        x.ask(2, 1);
        x.feed('h');
        return x;
    }
}
