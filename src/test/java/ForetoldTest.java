/** Promises 18 to 34: what is FORETOLD, while nothing changes. */
public final class ForetoldTest {
    private static final int NONE = SoupRights.NONE, BAD = SoupRights.BAD, STATE = SoupRights.STATE;
    private static final int NULL = -1000011, PLACE = -1000012;
    private static final int MIN = Integer.MIN_VALUE, MAX = Integer.MAX_VALUE;
    private static final Check CHECK = new Check();

    public static void main(String[] args) {
        ahead();
        eating();
        richest();
        cheap();
        sales();
        bonds();
        barter();
        whatWasSold();
        whoItIs();
        claims();
        peace();
        prowl();
        drawn();
        nothingChanges();
        behindALargerHouse();
        withoutAHouse();
        CHECK.end("ForetoldTest");
    }

    private static void ahead() {
        SoupRights x = Check.house("h0,0;h9,3;h0,9;p8,1,2;f4,2,0;");
        x.sell(0, 1, 1);
        int[] bowls = {8, 15, 14, 13};
        int[] hunger = {3, 1, 0, 0};
        int[] owner = {1, 1, 0, 0};
        for (int n = 0; n < 4; n++) {
            CHECK.due("ahead(1, " + n + ", 0)", x.ahead(1, n, 0), bowls[n]);
            CHECK.due("ahead(1, " + n + ", 1)", x.ahead(1, n, 1), hunger[n]);
            CHECK.due("whose(0, " + n + ")", x.whose(0, n), owner[n]);
        }
        CHECK.due("whose(0, 0) behind another look", x.whose(0, 0), 1);
        CHECK.due("ahead(2, 60, 1)", x.ahead(2, 60, 1), 20);
        CHECK.due("ahead(0, 60, 0)", x.ahead(0, 60, 0), 98);
        CHECK.due("whose(1, 60)", x.whose(1, 60), 0);
        CHECK.due("ahead(1, 61, 0)", x.ahead(1, 61, 0), BAD);
        CHECK.due("ahead(1, -1, 0)", x.ahead(1, -1, 0), BAD);
        CHECK.due("ahead(1, 0, 2)", x.ahead(1, 0, 2), BAD);
        CHECK.due("ahead(1, 0, -1)", x.ahead(1, 0, -1), BAD);
        CHECK.due("ahead(3, 0, 0)", x.ahead(3, 0, 0), BAD);
        CHECK.due("ahead(-1, 0, 0)", x.ahead(-1, 0, 0), BAD);
        CHECK.due("whose(0, 61)", x.whose(0, 61), BAD);
        CHECK.due("whose(0, -1)", x.whose(0, -1), BAD);
        CHECK.due("whose(2, 0)", x.whose(2, 0), BAD);
        CHECK.due("whose(-1, 0)", x.whose(-1, 0), BAD);
    }

    private static void eating() {
        SoupRights x = Check.house("h2,5;h0,0;h0,20;n3,4,0;f1,6,1;");
        int[] often = {0, 1, 2, 2, 2, 3, 4, 5, 5};
        for (int n = 0; n < often.length; n++) {
            CHECK.due("eats(0, " + n + ")", x.eats(0, n), often[n]);
        }
        CHECK.due("eats(1, 60)", x.eats(1, 60), 54);
        CHECK.due("eats(2, 60)", x.eats(2, 60), 0);
        CHECK.due("eats(0, 61)", x.eats(0, 61), BAD);
        CHECK.due("eats(0, -1)", x.eats(0, -1), BAD);
        CHECK.due("eats(3, 1)", x.eats(3, 1), BAD);
        CHECK.due("eats(-1, 1)", x.eats(-1, 1), BAD);

        // HUNGER of 0: 3, 1, 2, 3, 1, 0, 0 behind 7 DAYS, then 1 more each
        CHECK.due("starves(0)", x.starves(0), 27);
        CHECK.due("starves(1)", x.starves(1), NONE);
        CHECK.due("starves(2)", x.starves(2), 0);
        CHECK.due("starves(3)", x.starves(3), BAD);
        CHECK.due("starves(-1)", x.starves(-1), BAD);
        CHECK.due("starves behind 60", Check.house("h40,0;n1,60,0;").starves(0), 60);
        CHECK.due("starves behind 61", Check.house("h41,0;n1,60,0;").starves(0), NONE);
        CHECK.due("starves behind 1", Check.house("h0,19;n1,60,0;").starves(0), 1);
    }

    private static void richest() {
        SoupRights x = Check.house("h4,0;h5,0;h5,0;f3,2,0;");
        int[] who = {1, 1, 1, 0};
        for (int n = 0; n < who.length; n++) {
            CHECK.due("richest(" + n + ")", x.richest(n), who[n]);
        }
        CHECK.due("richest(60)", x.richest(60), 0);
        CHECK.due("richest(61)", x.richest(61), BAD);
        CHECK.due("richest(-1)", x.richest(-1), BAD);
        CHECK.due("all alike", Check.house("h0,0;h0,0;n1,60,1;").richest(9), 0);
    }

    private static void cheap() {
        SoupRights x = Check.house("h9,3;h0,0;l5,4,0;n3,1,1;");
        int[] when = {0, 1, 2, 3, 4, 4};
        int[] least = {18, 15, 11, 6, 1, 1};
        for (int n = 0; n < when.length; n++) {
            CHECK.due("cheap(0, " + n + ", 0)", x.cheap(0, n, 0), when[n]);
            CHECK.due("cheap(0, " + n + ", 1)", x.cheap(0, n, 1), least[n]);
        }
        CHECK.due("cheap(0, 30, 0)", x.cheap(0, 30, 0), 4);
        // of heir 1, who is hungrier behind a DAY: 4 now, 4 on the DAY it is due, then 1
        CHECK.due("cheap(1, 1, 0)", x.cheap(1, 1, 0), 0);
        CHECK.due("cheap(1, 1, 1)", x.cheap(1, 1, 1), 4);
        CHECK.due("cheap(1, 2, 0)", x.cheap(1, 2, 0), 2);
        CHECK.due("cheap(0, 31, 0)", x.cheap(0, 31, 0), BAD);
        CHECK.due("cheap(0, -1, 0)", x.cheap(0, -1, 0), BAD);
        CHECK.due("cheap(0, 1, 2)", x.cheap(0, 1, 2), BAD);
        CHECK.due("cheap(0, 1, -1)", x.cheap(0, 1, -1), BAD);
        CHECK.due("cheap(2, 1, 0)", x.cheap(2, 1, 0), BAD);
        CHECK.due("cheap(-1, 1, 0)", x.cheap(-1, 1, 0), BAD);
        CHECK.due("price(2)", x.price(2), BAD);
        CHECK.due("price(-1)", x.price(-1), BAD);
        CHECK.due("price(0)", x.price(0), 18);
    }

    private static void sales() {
        SoupRights x = Check.house("h0,9;h0,0;h1,1;h5,0;n8,1,0;n9,0,3;n9,1,0;");
        CHECK.due("sales(0)", x.sales(0), 4);
        CHECK.due("sales(1)", x.sales(1), 2);
        CHECK.due("surplus(0, 1)", x.surplus(0, 1), 1008);
        CHECK.due("surplus(0, 2)", x.surplus(0, 2), 1007);
        CHECK.due("surplus(1, 0)", x.surplus(1, 0), 1000);
        CHECK.due("surplus(0, 0)", x.surplus(0, 0), BAD);
        CHECK.due("surplus(3, 0)", x.surplus(3, 0), BAD);
        CHECK.due("surplus(-1, 0)", x.surplus(-1, 0), BAD);
        CHECK.due("surplus(0, 4)", x.surplus(0, 4), BAD);
        CHECK.due("surplus(0, -1)", x.surplus(0, -1), BAD);
        x.bind(0, 1);
        CHECK.due("sales(0), one bound", x.sales(0), 2);
        CHECK.due("sales(1), one bound", x.sales(1), 22);
        x.bind(2, 1);
        CHECK.due("sales(0), all bound", x.sales(0), 0);
        CHECK.due("sales(1), all bound", x.sales(1), NONE);
        CHECK.due("sales(2)", x.sales(2), BAD);
        CHECK.due("sales(-1)", x.sales(-1), BAD);
        SoupRights toTheFirst = Check.house("h3,0;h0,9;h0,0;n8,1,1;n1,0,0;n1,0,0;n1,0,0;n1,0,0;n1,0,0;n8,1,1;");
        CHECK.due("sales(0) to the first heir", toTheFirst.sales(0), 2);
        CHECK.due("sales(1) to the first heir", toTheFirst.sales(1), 0);
        CHECK.due("bonds(1, 1) of the first right and the last", toTheFirst.bonds(1, 1), 65);
        CHECK.due("barter(2, 0) to the first heir", toTheFirst.barter(2, 0), 16);
        CHECK.due("barter(2, 1) to the first heir", toTheFirst.barter(2, 1), 0);
        toTheFirst.sell(0, 0, 1);
        CHECK.due("sales(1), one sold", toTheFirst.sales(1), 60);
        toTheFirst.sell(6, 0, 1);
        CHECK.due("sales(1), both sold", toTheFirst.sales(1), NONE);
        CHECK.due("claims(), both sold", toTheFirst.claims(), 65);
        CHECK.due("less than to its OWNER", Check.house("h0,0;h5,9;n8,1,0;").surplus(0, 1), 992);
    }

    private static void bonds() {
        SoupRights x = Check.house("h0,9;h5,0;h1,1;n8,1,0;n9,0,0;n9,1,0;n7,1,2;");
        CHECK.due("bonds(0, 0)", x.bonds(0, 0), 2);
        CHECK.due("bonds(0, 1)", x.bonds(0, 1), 5);
        CHECK.due("bonds(1, 0)", x.bonds(1, 0), 0);
        CHECK.due("bonds(1, 1)", x.bonds(1, 1), 0);
        CHECK.due("bonds(2, 0): 7 BOWLS are wanted", x.bonds(2, 0), 0);
        x.give(1, 2, 1);
        x.bind(0, 1);
        CHECK.due("bonds(0, 0), one bound", x.bonds(0, 0), 1);
        CHECK.due("bonds(0, 1), one bound", x.bonds(0, 1), 4);
        x.bind(2, 1);
        CHECK.due("bonds(0, 0), both bound", x.bonds(0, 0), 0);
        CHECK.due("bonds(0, 1), both bound", x.bonds(0, 1), 0);
        CHECK.due("bonds(0, 2)", x.bonds(0, 2), BAD);
        CHECK.due("bonds(0, -1)", x.bonds(0, -1), BAD);
        CHECK.due("bonds(3, 0)", x.bonds(3, 0), BAD);
        CHECK.due("bonds(-1, 0)", x.bonds(-1, 0), BAD);
    }

    private static void barter(String text, int n, int sum, int first) {
        SoupRights x = Check.house(text);
        CHECK.due("barter(" + n + ", 0) of " + text, x.barter(n, 0), sum);
        CHECK.due("barter(" + n + ", 1) of " + text, x.barter(n, 1), first);
    }

    private static void barter() {
        barter("h0,9;h5,0;h1,1;n8,1,0;", 1, 8, 1);
        barter("h0,9;h5,0;h1,1;n8,1,0;", 2, NONE, NONE);
        // by way of heir 2, as heir 1 has 8 for it then
        barter("h0,9;h9,0;h1,1;n8,1,0;", 2, 8, 2);
        barter("h0,9;h9,0;h1,1;n8,1,0;", 3, NONE, NONE);
        // heir 1 can buy only from what he has sold ahead
        barter("h0,9;h0,5;h4,0;n8,1,0;n8,1,1;", 1, 8, 2);
        barter("h0,9;h0,5;h4,0;n8,1,0;n8,1,1;", 2, 8, 12);
        // of several rows alike the first
        barter("h0,9;h5,0;h5,0;n8,1,0;", 1, 8, 1);
        barter("h0,9;h5,0;h5,0;n8,1,0;n8,1,0;", 2, 16, 1);
        barter("h0,9;h5,0;h5,0;n7,1,0;n8,1,0;", 1, 8, 11);
        barter("h0,9;h5,0;h5,0;n8,1,0;n8,1,0;n8,1,0;", 3, 24, 1);
        barter("h0,9;h1,0;h1,0;n8,1,0;n8,1,0;n8,1,0;", 2, 16, 1);
        barter("h0,9;h1,0;h1,0;n8,1,0;n8,1,0;n8,1,0;", 3, NONE, NONE);
        // what a row that was tried ahead brought its seller is gone again
        barter("h0,9;h0,5;h1,0;n3,1,0;n8,1,0;n8,1,1;", 2, NONE, NONE);
        barter("h0,9;h0,5;h2,0;n3,1,0;n8,1,0;n8,1,1;", 2, 11, 2);
        barter("h0,9;h0,5;h4,0;n6,1,1;n8,1,0;n8,1,0;", 2, 16, 12);
        barter("h0,9;h0,5;h4,0;n6,1,1;n8,1,0;n8,1,0;", 3, 21, 2);
        barter("h0,20;h0,5;h1,4;n5,1,1;n9,1,0;n9,1,0;", 2, 5, 2);
        SoupRights x = Check.house("h0,9;h5,0;h5,0;n8,1,0;n3,1,0;");
        x.bind(0, 1);
        CHECK.due("barter(1, 0), one bound", x.barter(1, 0), 3);
        CHECK.due("barter(1, 1), one bound", x.barter(1, 1), 11);
        CHECK.due("barter(2, 0), one bound", x.barter(2, 0), NONE);
        CHECK.due("barter(0, 0)", x.barter(0, 0), BAD);
        CHECK.due("barter(4, 0)", x.barter(4, 0), BAD);
        CHECK.due("barter(1, 2)", x.barter(1, 2), BAD);
        CHECK.due("barter(1, -1)", x.barter(1, -1), BAD);
    }

    private static void whatWasSold() {
        SoupRights x = Check.house("h0,9;h5,0;h5,0;n8,1,0;");
        Check.row(x, 0, 0, 3, 2, 5, 3, 5, 2, 0, 5, 5, 6, -1, 5);
        CHECK.due("whatSold(0, 0, 0)", x.whatSold(0, 0, 0), 1);
        CHECK.due("whatSold(0, 0, 1)", x.whatSold(0, 0, 1), 1);
        CHECK.due("whatSold(0, 3, 0)", x.whatSold(0, 3, 0), 1);
        CHECK.due("whatSold(0, 3, 1)", x.whatSold(0, 3, 1), 2);
        CHECK.due("whatSold(0, 6, 0): nothing was sold", x.whatSold(0, 6, 0), 0);
        CHECK.due("whatSold(0, 6, 1)", x.whatSold(0, 6, 1), NONE);
        CHECK.due("status() behind NONE", x.status(), 0);
        CHECK.due("whatSold(0, 9, 0): more than he has", x.whatSold(0, 9, 0), 0);
        CHECK.due("whatSold(0, 10, 0)", x.whatSold(0, 10, 0), PLACE);
        CHECK.due("status() of PLACE", x.status(), 2);
        CHECK.due("whatSold(0, -1, 0)", x.whatSold(0, -1, 0), PLACE);
        CHECK.due("whatSold(0, MAX, 0)", x.whatSold(0, MAX, 0), PLACE);
        CHECK.due("whatSold(1, 99, 0)", x.whatSold(1, 99, 0), NULL);
        CHECK.due("status() of NULL", x.status(), 1);
        CHECK.due("whatSold(8, 0, 0)", x.whatSold(8, 0, 0), BAD);
        CHECK.due("whatSold(-1, 0, 0)", x.whatSold(-1, 0, 0), BAD);
        CHECK.due("whatSold(1, 0, 2)", x.whatSold(1, 0, 2), BAD);
        CHECK.due("whatSold(1, 0, -1)", x.whatSold(1, 0, -1), BAD);
        CHECK.due("status() behind BAD", x.status(), 1);
        Check.row(x, 2, 2, MIN, MIN, MIN);
        CHECK.due("whatSold of what can not be", x.whatSold(2, 0, 0), 0);
        Check.row(x, 2, 2, 5, 0, 5);
        CHECK.due("whatSold for all he has", x.whatSold(2, 0, 1), 1);
        x.bind(0, 1);
        CHECK.due("whatSold of what is bound", x.whatSold(2, 0, 0), 0);

        SoupRights two = Check.house("h1,9;h60,0;n8,1,0;n3,1,1;n4,1,0;");
        Check.row(two, 5, 1, 5, 56, 6, 55, 9, 52, 10, 51);
        int[] ways = {2, 1, 1, 0};
        int[] first = {1, 1, 1, NONE};
        for (int i = 0; i < 4; i++) {
            CHECK.due("two rights, whatSold(5, " + 2 * i + ", 0)", two.whatSold(5, 2 * i, 0), ways[i]);
            CHECK.due("two rights, whatSold(5, " + 2 * i + ", 1)", two.whatSold(5, 2 * i, 1), first[i]);
        }

        SoupRights toTheFirst = Check.house("h9,0;h0,9;n1,0,0;n8,1,1;");
        Check.row(toTheFirst, 1, 0, 8, 1, 8, 2, 1, 8);
        CHECK.due("to the first heir for 1, whatSold(1, 0, 1)", toTheFirst.whatSold(1, 0, 1), 10);
        CHECK.due("to the first heir for 1, whatSold(1, 0, 0)", toTheFirst.whatSold(1, 0, 0), 1);
        CHECK.due("where one came too many", toTheFirst.whatSold(1, 2, 0), 0);
        CHECK.due("to the first heir for 8", toTheFirst.whatSold(1, 4, 1), 10);
        Check.row(two, 6, 2, 4, 56);
        CHECK.due("where the first heir's are too few", two.whatSold(6, 0, 0), 0);

        SoupRights rich = Check.house("h60,9;h60,0;h60,0;n8,1,0;");
        rich.give(2, 0, 39);
        Check.row(rich, 0, 2, 99, 57, 21);
        CHECK.due("BOWLS are 99 at most", rich.whatSold(0, 0, 0), 1);
    }

    private static void whoItIs() {
        SoupRights x = Check.house("h0,0;h0,0;n6,1,0;");
        Check.row(x, 0, 0, 0, 5, 4, 0, 5, 10, 5, 4, 3, 7);
        CHECK.due("who(0, 0, 0, 1)", x.who(0, 0, 0, 1), 14);
        CHECK.due("who(0, 0, 0, 3)", x.who(0, 0, 0, 3), 6);
        CHECK.due("who(0, 0, 3, 3)", x.who(0, 0, 3, 3), 8);
        CHECK.due("who(0, 0, 6, 3)", x.who(0, 0, 6, 3), 48);
        CHECK.due("who(0, 0, 6, 4)", x.who(0, 0, 6, 4), 0);
        CHECK.due("status() of none", x.status(), 0);
        CHECK.due("who(0, 0, 7, 4)", x.who(0, 0, 7, 4), PLACE);
        CHECK.due("who(0, 0, -1, 4)", x.who(0, 0, -1, 4), PLACE);
        CHECK.due("who(0, 0, MAX, 12)", x.who(0, 0, MAX, 12), PLACE);
        CHECK.due("status() of PLACE", x.status(), 2);
        CHECK.due("who(0, 1, 7, 4)", x.who(0, 1, 7, 4), NULL);
        CHECK.due("who(0, 0, 0, 0)", x.who(0, 0, 0, 0), BAD);
        CHECK.due("who(0, 0, 0, 13)", x.who(0, 0, 0, 13), BAD);
        CHECK.due("who(1, 0, 0, 1)", x.who(1, 0, 0, 1), BAD);
        CHECK.due("who(-1, 0, 0, 1)", x.who(-1, 0, 0, 1), BAD);
        CHECK.due("who(0, 8, 0, 1)", x.who(0, 8, 0, 1), BAD);
        CHECK.due("who(0, -1, 0, 1)", x.who(0, -1, 0, 1), BAD);
        CHECK.due("status() behind BAD", x.status(), 1);
        CHECK.due("its KIND is as told", x.kind(0), 1);

        // twelve DAYS of a loan that ends on DAY 11
        SoupRights long12 = Check.house("h0,0;n2,11,0;");
        Check.row(long12, 7, 1, 1, 2, 3, 4, 5, 6, 7, 8, 9, 10, 11, 10);
        CHECK.due("who(0, 7, 0, 12)", long12.who(0, 7, 0, 12), 48);
        // whose it is now, though it goes to another one: the twin's other half is not his
        SoupRights sold = Check.house("h0,9;h5,0;t7,1,0;");
        sold.sell(0, 1, 1);
        Check.row(sold, 0, 2, 3, 5);
        CHECK.due("who of a twin's that was sold", sold.who(0, 0, 0, 2), 4);
    }

    private static void claims() {
        SoupRights x = Check.house("h0,9;h9,0;n8,1,0;n9,1,1;n9,1,0;l5,3,0;");
        CHECK.due("claims()", x.claims(), 0);
        x.sell(2, 1, 1);
        CHECK.due("claims(), one sold", x.claims(), 4);
        x.sell(0, 1, 1);
        CHECK.due("claims(), two sold", x.claims(), 5);
        x.undo();
        CHECK.due("claims(), one undone", x.claims(), 4);
    }

    private static void peace() {
        CHECK.due("9 are too few", Check.house("h9,0;h0,6;n1,60,0;").peace(0, 1), NONE);
        CHECK.due("10 are enough", Check.house("h10,0;h0,6;n1,60,0;").peace(0, 1), 10);
        CHECK.due("a name on the last DAY", Check.house("h9,0;h0,6;n1,9,1;").peace(0, 1), 7);
        CHECK.due("too hungry", Check.house("h60,0;h60,20;n1,9,1;").peace(0, 1), 0);
        SoupRights x = Check.house("h9,0;h10,20;n1,9,1;");
        CHECK.due("peace(0, 1) as it is", x.peace(0, 1), 0);
        CHECK.due("peace(1, 0)", x.peace(1, 0), 1);
        CHECK.due("peace(0, 0)", x.peace(0, 0), BAD);
        CHECK.due("peace(2, 0)", x.peace(2, 0), BAD);
        CHECK.due("peace(0, 2)", x.peace(0, 2), BAD);
        CHECK.due("peace(-1, 0)", x.peace(-1, 0), BAD);
        CHECK.due("peace(0, -1)", x.peace(0, -1), BAD);
    }

    private static void likely(SoupRights x, int k, int p, long above, long below) {
        CHECK.due("prowl(" + k + ", " + p + ", 0)", x.prowl(k, p, 0), above);
        CHECK.due("prowl(" + k + ", " + p + ", 1)", x.prowl(k, p, 1), below);
    }

    private static void prowl() {
        SoupRights x = Check.house("h1,0;h2,0;n1,60,0;");
        likely(x, 0, 3, 1, 1);
        likely(x, 1, 3, 1, 1);
        likely(x, 2, 3, 7, 10);
        likely(x, 2, 5, 1, 2);
        likely(x, 2, 0, 1, 1);
        likely(x, 2, 10, 0, 1);
        likely(x, 3, 3, 0, 1);
        likely(x, 5, 3, 0, 1);
        SoupRights y = Check.house("h1,0;h1,0;n1,60,0;");
        likely(y, 1, 4, 21, 25);
        likely(y, 2, 4, 9, 25);
        likely(y, 1, 10, 0, 1);
        SoupRights five = Check.house("h1,0;h1,0;h1,0;h1,0;h1,0;n1,60,0;");
        likely(five, 5, 3, 16807, 100000);
        likely(five, 1, 7, 83193, 100000);
        likely(five, 5, 5, 1, 32);
        likely(Check.house("h1,0;n1,0,0;"), 1, 7, 1, 1);
        CHECK.due("prowl(-1, 0, 0)", x.prowl(-1, 0, 0), BAD);
        CHECK.due("prowl(6, 0, 0)", x.prowl(6, 0, 0), BAD);
        CHECK.due("prowl(0, -1, 0)", x.prowl(0, -1, 0), BAD);
        CHECK.due("prowl(0, 11, 0)", x.prowl(0, 11, 0), BAD);
        CHECK.due("prowl(0, 0, -1)", x.prowl(0, 0, -1), BAD);
        CHECK.due("prowl(0, 0, 2)", x.prowl(0, 0, 2), BAD);
    }

    private static void drawn() {
        SoupRights x = Check.house("h0,9;h9,0;n8,1,0;");
        CHECK.due("drawn(0, 1, 0)", x.drawn(0, 1, 0), 0);
        CHECK.due("drawn(0, 1, 1)", x.drawn(0, 1, 1), 9);
        // 16807 is odd: to heir 1, who has 8 then
        CHECK.due("drawn(1, 1, 0)", x.drawn(1, 1, 0), 1);
        CHECK.due("drawn(1, 1, 1)", x.drawn(1, 1, 1), 7);
        CHECK.due("drawn(60, 1, 0)", x.drawn(60, 1, 0), 1);
        // 33614 is even: to heir 0, whose it is
        CHECK.due("drawn(1, 2, 0)", x.drawn(1, 2, 0), 0);
        CHECK.due("drawn(1, 2, 1)", x.drawn(1, 2, 1), 8);
        CHECK.due("drawn(0, 999999, 1)", x.drawn(0, 999999, 1), 9);
        CHECK.due("drawn of one heir", Check.house("h5,0;n1,60,0;").drawn(3, 7, 1), 2);
        CHECK.due("drawn(1, 0, 0)", x.drawn(1, 0, 0), BAD);
        CHECK.due("drawn(1, 1000000, 0)", x.drawn(1, 1000000, 0), BAD);
        CHECK.due("drawn(-1, 1, 0)", x.drawn(-1, 1, 0), BAD);
        CHECK.due("drawn(61, 1, 0)", x.drawn(61, 1, 0), BAD);
        CHECK.due("drawn(1, 1, 2)", x.drawn(1, 1, 2), BAD);
        CHECK.due("drawn(1, 1, -1)", x.drawn(1, 1, -1), BAD);
        x.sell(0, 1, 1);
        CHECK.due("what was sold ahead does not count", x.drawn(1, 1, 0), 0);
        // 16807, 282475249, 1622650073 by 3: 1, 1, 2; by 2: 1, 1, 1
        SoupRights y = Check.house("h0,20;h60,0;n20,9,0;t20,9,0;f20,9,0;");
        CHECK.due("drawn(1, 1, 0) of three", y.drawn(1, 1, 0), 1);
        CHECK.due("drawn(2, 1, 0) of three", y.drawn(2, 1, 0), 1);
        CHECK.due("drawn(3, 1, 0) of three", y.drawn(3, 1, 0), 2);
    }

    private static void nothingChanges() {
        SoupRights x = Check.house("h3,9;h30,0;h4,5;n8,4,0;l9,6,0;p7,5,2;t9,4,2;f3,2,1;");
        x.sell(0, 1, 1);
        x.bind(3, 1);
        x.ask(2, 1);
        Check.row(x, 0, 2, 1, 2, 3, 4, 5, 6, 7, 8, 9, 10, 11, 12);
        String before = Check.seen(x);
        for (int n = -1; n < 62; n++) {
            x.ahead(1, n, 0);
            x.whose(1, n);
            x.eats(0, n);
            x.richest(n);
            x.cheap(2, n, 1);
            x.drawn(n, 77, 0);
            x.prowl(n, 3, 0);
        }
        for (int n = -1; n < 5; n++) {
            x.starves(n);
            x.sales(n);
            x.surplus(1, n);
            x.bonds(n, 0);
            x.barter(n, 0);
            x.whatSold(0, n, 0);
            x.who(n, 0, 0, 12);
            x.claims();
            x.peace(n, 0);
        }
        CHECK.same("what is seen behind what is foretold", Check.seen(x), before);
        CHECK.due("undo() behind it", x.undo(), 1);
    }

    /** Of a larger house nothing is left when a smaller one is read. */
    private static void behindALargerHouse() {
        SoupRights x = Check.house("h1,9;h1,20;h60,0;n1,0,0;f20,0,0;n20,9,0;");
        x.richest(0);
        Check.read(x, "h3,9;h2,20;n1,60,0;");
        Check.row(x, 0, 0, 4, 2, 59);
        CHECK.due("richest(0)", x.richest(0), 0);
        CHECK.due("ahead(0, 1, 0)", x.ahead(0, 1, 0), 2);
        CHECK.due("ahead(0, 2, 0)", x.ahead(0, 2, 0), 1);
        CHECK.due("heir(0, 2)", x.heir(0, 2), 1);
        CHECK.due("claims()", x.claims(), 0);
        CHECK.due("count(4)", x.count(4), 5);
        CHECK.due("sales(0)", x.sales(0), 0);
        CHECK.due("sales(1)", x.sales(1), NONE);
        CHECK.due("bonds(0, 1)", x.bonds(0, 1), 0);
        CHECK.due("barter(1, 0)", x.barter(1, 0), NONE);
        CHECK.due("whatSold(0, 0, 0)", x.whatSold(0, 0, 0), 0);
        Check.read(x, "h3,9;h2,20;h60,0;n9,1,0;");
        x.richest(0);
        Check.read(x, "h3,9;h2,20;n9,1,0;");
        CHECK.due("sales(0) of a third one", x.sales(0), 0);
        CHECK.due("sales(1) of a third one", x.sales(1), NONE);
        CHECK.due("barter(1, 0) of a third one", x.barter(1, 0), NONE);
        CHECK.due("whatSold(0, 0, 0) of a third one", x.whatSold(0, 0, 0), 0);
        CHECK.due("richest(0) of a third one", x.richest(0), 0);
    }

    private static void withoutAHouse() {
        SoupRights x = new SoupRights();
        CHECK.due("richest(-1)", x.richest(-1), STATE);
        CHECK.due("sales(9)", x.sales(9), STATE);
        CHECK.due("barter(9, 9)", x.barter(9, 9), STATE);
        CHECK.due("whatSold(9, 9, 9)", x.whatSold(9, 9, 9), STATE);
        CHECK.due("whatSold(0, 0, 0)", x.whatSold(0, 0, 0), STATE);
        CHECK.due("status() behind STATE", x.status(), 0);
        CHECK.due("claims()", x.claims(), STATE);
        CHECK.due("prowl(9, 99, 9)", x.prowl(9, 99, 9), STATE);
        CHECK.due("drawn(99, 0, 9)", x.drawn(99, 0, 9), STATE);
        CHECK.due("ahead(0, 0, 0)", x.ahead(0, 0, 0), BAD);
        CHECK.due("whose(0, 0)", x.whose(0, 0), BAD);
        CHECK.due("eats(0, 0)", x.eats(0, 0), BAD);
        CHECK.due("starves(0)", x.starves(0), BAD);
        CHECK.due("price(0)", x.price(0), BAD);
        CHECK.due("cheap(0, 0, 0)", x.cheap(0, 0, 0), BAD);
        CHECK.due("surplus(0, 1)", x.surplus(0, 1), BAD);
        CHECK.due("bonds(0, 0)", x.bonds(0, 0), BAD);
        CHECK.due("who(0, 0, 0, 1)", x.who(0, 0, 0, 1), BAD);
        CHECK.due("peace(0, 1)", x.peace(0, 1), BAD);
    }
}
