/** Promises 9 to 17: DAYS, sales, oaths, gifts, wolves, and how they are undone. */
public final class DoneTest {
    private static final int BAD = SoupRights.BAD, STATE = SoupRights.STATE, FULL = SoupRights.FULL;
    private static final int MIN = Integer.MIN_VALUE, MAX = Integer.MAX_VALUE;
    private static final Check CHECK = new Check();

    public static void main(String[] args) {
        rightsBring();
        rightsGoBack();
        heirsEat();
        daysAreCounted();
        worths();
        rightsAreSold();
        rightsAreBound();
        bowlsAreGiven();
        wolvesCome();
        actsAreUndone();
        whatIsTold();
        refusalsChangeNothing();
        CHECK.end("DoneTest");
    }

    /** BOWLS of an HEIR behind each DAY. */
    private static void days(SoupRights x, int heir, int... bowls) {
        for (int i = 0; i < bowls.length; i++) {
            int day = x.count(3);
            CHECK.due("days(1)", x.days(1), day + 1);
            CHECK.due("BOWLS of " + heir + " behind DAY " + day, x.heir(heir, 0), bowls[i]);
        }
    }

    private static void rightsBring() {
        days(Check.house("h0,0;n5,2,0;"), 0, 0, 0, 4, 3, 2);
        days(Check.house("h0,0;n5,0,0;"), 0, 4, 3, 2, 1, 0, 0);
        days(Check.house("h0,0;t7,1,0;"), 0, 0, 5, 4, 3);
        days(Check.house("h0,0;t1,1,0;"), 0, 0, 0, 0);
        days(Check.house("h0,0;f4,1,0;"), 0, 0, 3, 6, 9);
        days(Check.house("h0,0;l4,2,0;"), 0, 3, 6, 5, 4);
        days(Check.house("h0,0;h9,0;p4,2,0;"), 0, 3, 6, 5, 4);
        days(Check.house("h0,0;l4,0,0;"), 0, 0, 0);
        days(Check.house("h60,0;f20,0,0;"), 0, 79, 98, 98, 98);
        days(Check.house("h60,0;f20,0,0;f20,0,0;"), 0, 98, 98);

        SoupRights twin = Check.house("h0,9;h5,0;t7,1,0;");
        CHECK.due("a twin's is sold", twin.sell(0, 1, 1), 1);
        twin.days(2);
        CHECK.due("its OWNER has half", twin.heir(1, 0), 5);
        CHECK.due("whose it was FIRST has as much", twin.heir(0, 0), 2);
    }

    private static void rightsGoBack() {
        SoupRights loan = Check.house("h0,9;h9,0;h0,0;l4,2,0;");
        CHECK.due("a loan is sold", loan.sell(0, 1, 1), 1);
        loan.bind(0, 1);
        days(loan, 1, 11, 14, 13);
        CHECK.due("it is his whose it was FIRST", loan.right(0, 2), 0);
        CHECK.due("bound as it was", loan.right(0, 4), 1);
        CHECK.due("FIRST stays", loan.right(0, 3), 0);
        CHECK.due("claims()", loan.claims(), 0);

        SoupRights proxy = Check.house("h0,0;h9,0;h0,9;p4,1,2;");
        CHECK.due("a proxy is sold", proxy.sell(0, 1, 1), 1);
        days(proxy, 1, 11);
        CHECK.due("whose it is", proxy.right(0, 2), 1);
        days(proxy, 1, 10);
        CHECK.due("behind the last the first", proxy.right(0, 2), 0);
        CHECK.due("FIRST stays", proxy.right(0, 3), 2);
        CHECK.due("claims()", proxy.claims(), 1);

        SoupRights alone = Check.house("h0,0;p4,0,0;");
        alone.days(1);
        CHECK.due("behind the only one comes he", alone.right(0, 2), 0);
        SoupRights two = Check.house("h0,0;h0,0;p4,0,0;");
        two.days(1);
        CHECK.due("behind 0 comes 1", two.right(0, 2), 1);
        CHECK.due("RIGHTS of 1", two.heir(1, 2), 1);
    }

    private static void heirsEat() {
        SoupRights x = Check.house("h2,5;h0,19;h1,1;n1,60,0;");
        int[][] hunger = {{3, 20, 0}, {1, 20, 1}, {2, 20, 2}, {3, 20, 3}};
        for (int day = 0; day < hunger.length; day++) {
            x.days(1);
            for (int heir = 0; heir < 3; heir++) {
                CHECK.due("HUNGER of " + heir + " behind " + day, x.heir(heir, 1), hunger[day][heir]);
            }
        }
        CHECK.due("all BOWLS", x.count(4), 0);
    }

    private static void daysAreCounted() {
        SoupRights none = new SoupRights();
        CHECK.due("days(0) without a house", none.days(0), STATE);
        SoupRights x = Check.house("h0,0;n1,0,0;");
        CHECK.due("days(0)", x.days(0), BAD);
        CHECK.due("days(25)", x.days(25), BAD);
        CHECK.due("days(-1)", x.days(-1), BAD);
        CHECK.due("days(MAX)", x.days(MAX), BAD);
        CHECK.due("days(24)", x.days(24), 24);
        CHECK.due("acts of 24 days", x.count(6), 24);
        for (int i = 0; i < 40; i++) {
            x.days(24);
        }
        CHECK.due("DAY", x.count(3), 984);
        CHECK.due("days(16) to 1000", x.days(16), FULL);
        CHECK.due("days(25) is BAD first", x.days(25), BAD);
        CHECK.due("DAY is as it was", x.count(3), 984);
        CHECK.due("days(15) to 999", x.days(15), 999);
        CHECK.due("days(1) to 1000", x.days(1), FULL);
        CHECK.due("ahead of the last DAY", x.ahead(0, 60, 1), 20);
    }

    private static void worths() {
        SoupRights x = Check.house("h0,0;h0,2;h0,20;n11,3,0;t11,3,0;f11,3,0;l11,3,0;p11,3,0;l2,60,0;p3,10,0;");
        int[][] due = {{11, 5, 0}, {5, 0, 0}, {33, 27, 0}, {33, 31, 13}, {16, 15, 6}, {18, 16, 0}, {13, 12, 3}};
        for (int r = 0; r < 7; r++) {
            for (int h = 0; h < 3; h++) {
                CHECK.due("worth(" + r + ", " + h + ")", x.worth(r, h), due[r][h]);
            }
            CHECK.due("price(" + r + ")", x.price(r), due[r][0] + 1);
        }
        CHECK.due("worth(7, 0)", x.worth(7, 0), BAD);
        CHECK.due("worth(-1, 0)", x.worth(-1, 0), BAD);
        CHECK.due("worth(0, 3)", x.worth(0, 3), BAD);
        CHECK.due("worth(0, -1)", x.worth(0, -1), BAD);

        SoupRights y = Check.house("h60,0;h60,20;h0,2;n11,2,0;t11,2,0;f11,2,0;l11,2,0;p11,2,0;");
        y.days(2);
        int[][] today = {{11, 11, 11}, {5, 5, 5}, {33, 33, 33}, {0, 0, 0}, {0, 0, 0}};
        int[][] past = {{0, 0, 0}, {0, 0, 0}, {33, 33, 33}, {0, 0, 0}, {0, 0, 0}};
        for (int r = 0; r < 5; r++) {
            for (int h = 0; h < 3; h++) {
                CHECK.due("worth(" + r + ", " + h + ") on the DAY", y.worth(r, h), today[r][h]);
            }
        }
        y.days(1);
        for (int r = 0; r < 5; r++) {
            for (int h = 0; h < 3; h++) {
                CHECK.due("worth(" + r + ", " + h + ") behind it", y.worth(r, h), past[r][h]);
            }
        }
    }

    private static void rightsAreSold() {
        SoupRights x = Check.house("h5,2;h60,0;h9,0;n10,3,0;");
        CHECK.due("sell for no more than it is worth to him", x.sell(0, 1, 4), STATE);
        CHECK.due("sell for more than it is worth to her", x.sell(0, 1, 11), STATE);
        CHECK.due("sell for more than one has", x.sell(0, 2, 10), STATE);
        CHECK.due("sell for 10", x.sell(0, 1, 10), 15);
        CHECK.due("BOWLS of the buyer", x.heir(1, 0), 50);
        CHECK.due("OWNER", x.right(0, 2), 1);
        CHECK.due("FIRST", x.right(0, 3), 0);
        CHECK.due("RIGHTS of the buyer", x.heir(1, 2), 1);
        CHECK.due("RIGHTS of the seller", x.heir(0, 2), 0);
        CHECK.due("how many were sold", x.count(5), 1);
        CHECK.due("acts", x.count(6), 1);
        CHECK.due("sell to its OWNER", x.sell(0, 1, 5), BAD);
        CHECK.due("undo()", x.undo(), 0);
        CHECK.due("sell for all one has", x.sell(0, 2, 9), 14);
        CHECK.due("BOWLS of that one", x.heir(2, 0), 0);
        x.undo();
        CHECK.due("sell for PRICE", x.sell(0, 1, 5), 10);
        x.undo();
        x.bind(0, 1);
        CHECK.due("sell what is bound", x.sell(0, 1, 5), STATE);
        x.bind(0, 0);
        CHECK.due("sell what was freed", x.sell(0, 1, 5), 10);
        x.undo();
        CHECK.due("sell(0, 1, 0)", x.sell(0, 1, 0), BAD);
        CHECK.due("sell(0, 1, 100)", x.sell(0, 1, 100), BAD);
        CHECK.due("sell(0, 1, 99)", x.sell(0, 1, 99), STATE);
        CHECK.due("sell(1, 1, 5)", x.sell(1, 1, 5), BAD);
        CHECK.due("sell(-1, 1, 5)", x.sell(-1, 1, 5), BAD);
        CHECK.due("sell(0, 3, 5)", x.sell(0, 3, 5), BAD);
        CHECK.due("sell(0, -1, 5)", x.sell(0, -1, 5), BAD);

        SoupRights rich = Check.house("h60,2;h60,0;h60,0;n10,3,0;");
        CHECK.due("give to 99", rich.give(2, 0, 39), 99);
        CHECK.due("the seller has 99 at most", rich.sell(0, 1, 5), 99);
        CHECK.due("the buyer paid", rich.heir(1, 0), 55);
        CHECK.due("undo()", rich.undo(), 1);
        CHECK.due("the buyer has it again", rich.heir(1, 0), 60);
        CHECK.due("the seller has what he had", rich.heir(0, 0), 99);
    }

    private static void rightsAreBound() {
        SoupRights x = Check.house("h5,2;n1,0,0;n1,0,0;n1,0,0;");
        CHECK.due("bind(2, 1)", x.bind(2, 1), 4);
        CHECK.due("bind(0, 1)", x.bind(0, 1), 5);
        CHECK.due("bind(0, 1) again", x.bind(0, 1), STATE);
        CHECK.due("bind(1, 0) of what is free", x.bind(1, 0), STATE);
        CHECK.due("right(0, 4)", x.right(0, 4), 1);
        CHECK.due("right(1, 4)", x.right(1, 4), 0);
        CHECK.due("bind(2, 0)", x.bind(2, 0), 1);
        CHECK.due("bind(0, 2)", x.bind(0, 2), BAD);
        CHECK.due("bind(0, -1)", x.bind(0, -1), BAD);
        CHECK.due("bind(3, 1)", x.bind(3, 1), BAD);
        CHECK.due("bind(-1, 1)", x.bind(-1, 1), BAD);
        CHECK.due("bind(32, 0)", x.bind(32, 0), BAD);
        CHECK.due("acts", x.count(6), 3);
        CHECK.due("undo()", x.undo(), 2);
        CHECK.due("bound again", x.right(2, 4), 1);
    }

    private static void bowlsAreGiven() {
        SoupRights x = Check.house("h60,2;h50,0;h0,0;n1,0,0;");
        CHECK.due("give(1, 2, 51)", x.give(1, 2, 51), STATE);
        CHECK.due("give(1, 2, 50)", x.give(1, 2, 50), 50);
        CHECK.due("BOWLS of the giver", x.heir(1, 0), 0);
        CHECK.due("give(0, 2, 60)", x.give(0, 2, 60), 99);
        CHECK.due("BOWLS of that giver", x.heir(0, 0), 0);
        CHECK.due("undo()", x.undo(), 1);
        CHECK.due("BOWLS of that giver again", x.heir(0, 0), 60);
        CHECK.due("BOWLS of the other one again", x.heir(2, 0), 50);
        CHECK.due("give(0, 2, 0)", x.give(0, 2, 0), BAD);
        CHECK.due("give(0, 2, 61)", x.give(0, 2, 61), BAD);
        CHECK.due("give(0, 0, 1)", x.give(0, 0, 1), BAD);
        CHECK.due("give(3, 0, 1)", x.give(3, 0, 1), BAD);
        CHECK.due("give(0, 3, 1)", x.give(0, 3, 1), BAD);
        CHECK.due("give(-1, 0, 1)", x.give(-1, 0, 1), BAD);
        CHECK.due("give(0, -1, 1)", x.give(0, -1, 1), BAD);
        CHECK.due("give(1, 0, 1) of none", x.give(1, 0, 1), STATE);
    }

    private static void wolvesCome() {
        SoupRights x = Check.house("h7,2;h0,0;n1,0,0;");
        CHECK.due("wolves(0)", x.wolves(0), 3);
        CHECK.due("wolves(0)", x.wolves(0), 1);
        CHECK.due("wolves(0)", x.wolves(0), 0);
        CHECK.due("wolves(1) where there is nothing", x.wolves(1), 0);
        CHECK.due("HUNGER is as it was", x.heir(0, 1), 2);
        CHECK.due("acts", x.count(6), 4);
        CHECK.due("wolves(2)", x.wolves(2), BAD);
        CHECK.due("wolves(-1)", x.wolves(-1), BAD);
        x.undo();
        x.undo();
        CHECK.due("undo()", x.undo(), 1);
        CHECK.due("BOWLS", x.heir(0, 0), 3);
    }

    private static void actsAreUndone() {
        SoupRights x = Check.house("h9,9;h30,0;h3,3;n9,5,0;p7,2,1;l5,2,0;");
        String[] seen = new String[7];
        seen[0] = Check.seen(x);
        x.sell(0, 1, 2);
        seen[1] = Check.seen(x);
        x.bind(0, 1);
        seen[2] = Check.seen(x);
        x.give(1, 2, 7);
        seen[3] = Check.seen(x);
        x.wolves(1);
        seen[4] = Check.seen(x);
        x.days(2);
        seen[6] = Check.seen(x);
        x.undo();
        seen[5] = Check.seen(x);
        x.days(1);
        CHECK.same("the DAY anew", Check.seen(x), seen[6]);
        for (int i = 5; i >= 0; i--) {
            CHECK.due("undo()", x.undo(), i);
            CHECK.same("undone to " + i, Check.seen(x), seen[i]);
        }
        CHECK.due("undo() of nothing", x.undo(), STATE);
        CHECK.due("undo() without a house", new SoupRights().undo(), STATE);

        SoupRights old = Check.house("h0,0;n1,0,0;");
        old.days(24);
        old.days(6);
        CHECK.due("24 acts are kept", old.count(6), 24);
        for (int i = 23; i >= 0; i--) {
            CHECK.due("undo() of many", old.undo(), i);
            CHECK.due("DAY", old.count(3), i + 6);
        }
        CHECK.due("the oldest are forgotten", old.undo(), STATE);
        old.days(3);
        CHECK.due("undo() of new ones", old.undo(), 2);
        CHECK.due("DAY", old.count(3), 8);
    }

    private static void whatIsTold() {
        SoupRights x = Check.house("h5,2;h6,3;n4,7,1;");
        int[] right = {4, 7, 1, 1, 0};
        for (int what = 0; what < 5; what++) {
            CHECK.due("right(0, " + what + ")", x.right(0, what), right[what]);
        }
        CHECK.due("right(0, 5)", x.right(0, 5), BAD);
        CHECK.due("right(0, -1)", x.right(0, -1), BAD);
        CHECK.due("right(1, 0)", x.right(1, 0), BAD);
        CHECK.due("right(-1, 0)", x.right(-1, 0), BAD);
        int[] heir = {6, 3, 1};
        for (int what = 0; what < 3; what++) {
            CHECK.due("heir(1, " + what + ")", x.heir(1, what), heir[what]);
        }
        CHECK.due("heir(0, 2)", x.heir(0, 2), 0);
        CHECK.due("heir(0, 3)", x.heir(0, 3), BAD);
        CHECK.due("heir(0, -1)", x.heir(0, -1), BAD);
        CHECK.due("heir(2, 0)", x.heir(2, 0), BAD);
        CHECK.due("heir(-1, 0)", x.heir(-1, 0), BAD);
    }

    private static void refusalsChangeNothing() {
        SoupRights x = Check.house("h5,2;h60,0;h9,0;n10,3,0;f3,1,1;");
        x.days(1);
        x.bind(1, 1);
        x.ask(0, 0);
        x.drop(3);
        String before = Check.seen(x);
        int[] odd = {MIN, -1, 0, 1, 5, 7, 24, 25, 60, 61, 99, 100, MAX};
        for (int a : odd) {
            x.sell(a, 0, 100);
            x.sell(0, a, 0);
            x.sell(1, 0, a);
            x.bind(a, 2);
            x.bind(1, 1);
            x.give(a, a, 1);
            x.give(a, 9, 1);
            x.wolves(a < 0 ? a : a + 3);
            x.days(a < 1 ? a : a + 24);
            x.right(a, a);
            x.heir(a, a);
            x.worth(a, a);
            x.price(a);
        }
        x.sell(0, 1, 99);
        x.give(0, 1, 60);
        CHECK.same("what is seen behind refusals", Check.seen(x), before);
        CHECK.due("status() behind refusals", x.status(), 1);
    }
}
