/** Promises 35 to 42: IMAGES, KINDS, ASKS, THE TRACE, count() and status(). */
public final class AskedTest {
    private static final int NONE = SoupRights.NONE, BAD = SoupRights.BAD, STATE = SoupRights.STATE;
    private static final int KIND = -1000013;
    private static final Check CHECK = new Check();

    public static void main(String[] args) {
        images();
        kinds();
        asks();
        theTrace();
        counts();
        CHECK.end("AskedTest");
    }

    private static void images() {
        SoupRights x = new SoupRights();
        CHECK.due("image(2) without a house", x.image(2), BAD);
        CHECK.due("image(-1)", x.image(-1), BAD);
        CHECK.due("image(0) without a house", x.image(0), STATE);
        CHECK.due("restore(2)", x.restore(2), BAD);
        CHECK.due("restore(-1)", x.restore(-1), BAD);
        CHECK.due("restore(0) of none", x.restore(0), STATE);

        Check.read(x, "h0,9;h9,0;h2,2;n8,1,0;p5,1,0;");
        x.sell(0, 1, 1);
        x.bind(1, 1);
        x.days(1);
        String kept = Check.seen(x);
        CHECK.due("image(1)", x.image(1), 1);
        CHECK.same("an image changes nothing", Check.seen(x), kept);
        CHECK.due("undo() behind an image", x.undo(), 2);
        CHECK.due("restore(0) of none", x.restore(0), STATE);
        Check.read(x, "h7,7;f2,2,0;");
        CHECK.due("image(0)", x.image(0), 1);
        x.days(2);
        CHECK.due("restore(1)", x.restore(1), 1);
        CHECK.same("as it was kept, but no act", Check.seen(x), kept.replaceFirst("^0 3 2 1 13 1 3 ", "0 3 2 1 13 1 0 "));
        CHECK.due("DAY of the image", x.count(3), 1);
        CHECK.due("sold of the image", x.count(5), 1);
        CHECK.due("ACTS behind it", x.count(6), 0);
        CHECK.due("undo() behind it", x.undo(), STATE);
        x.days(1);
        x.wolves(1);
        CHECK.due("restore(1) again", x.restore(1), 1);
        CHECK.due("the image stays as it was", x.count(3), 1);
        CHECK.due("restore(0)", x.restore(0), 1);
        CHECK.due("HEIRS of the other image", x.count(1), 1);
        CHECK.due("kind(0) of the other image", x.kind(0), 3);
        CHECK.due("DAY of the other image", x.count(3), 0);
        x.days(1);
        CHECK.due("image(0) in place of that", x.image(0), 1);
        x.days(1);
        x.restore(0);
        CHECK.due("DAY of the later image", x.count(3), 1);
    }

    private static void kinds() {
        SoupRights x = Check.house("h1,0;n5,0,0;t6,0,0;f7,0,0;l8,0,0;p9,0,0;");
        boolean[][] is = {
            {true, true, false, false, false, false},
            {true, true, true, false, false, false},
            {true, true, false, true, false, false},
            {true, false, false, false, true, false},
            {true, false, false, false, true, true}};
        for (int one = 0; one < 5; one++) {
            CHECK.due("kind(" + one + ")", x.kind(one), one + 1);
            for (int kind = 0; kind < 6; kind++) {
                boolean fits = is[one][kind];
                CHECK.due("as(" + one + ", " + kind + ")", x.as(one, kind), fits ? one : KIND);
                CHECK.due("status() of it", x.status(), fits ? 0 : 3);
            }
        }
        x.as(0, 5);
        CHECK.due("as(0, 6)", x.as(0, 6), BAD);
        CHECK.due("as(0, -1)", x.as(0, -1), BAD);
        CHECK.due("as(5, 0)", x.as(5, 0), BAD);
        CHECK.due("as(-1, 0)", x.as(-1, 0), BAD);
        CHECK.due("status() behind BAD", x.status(), 3);
        CHECK.due("kind(5)", x.kind(5), BAD);
        CHECK.due("kind(-1)", x.kind(-1), BAD);
    }

    private static void ask(SoupRights x, int one, int what, int answer, int... trace) {
        String call = "ask(" + one + ", " + what + ")";
        CHECK.due(call, x.ask(one, what), answer);
        for (int i = 0; i < trace.length; i++) {
            CHECK.due(call + ", trace(" + i + ")", x.trace(i), trace[i]);
        }
        for (int i = trace.length; i < 18; i++) {
            CHECK.due(call + ", trace(" + i + ")", x.trace(i), NONE);
        }
    }

    private static void asks() {
        SoupRights x = Check.house("h1,0;h1,0;n5,0,1;t6,0,1;f7,0,1;l8,0,1;p9,0,1;");
        ask(x, 0, 0, 6, 11, 10, 21, 20);
        ask(x, 1, 0, -10, 12, 11, 10, 24, 21, 20);
        ask(x, 2, 0, -990, 11, 10, 22, 21, 20);
        ask(x, 3, 0, -92, 13, 10);
        ask(x, 4, 0, -182, 14, 13, 10);
        ask(x, 0, 1, 1, 21, 20);
        ask(x, 1, 1, 4, 24, 21, 20);
        ask(x, 2, 1, -997, 22, 21, 20);
        ask(x, 3, 1, 95, 23, 20, 13, 10);
        ask(x, 4, 1, 186, 23, 20, 14, 13, 10);

        SoupRights sold = Check.house("h0,9;h0,0;h5,0;n8,1,0;n8,1,0;");
        CHECK.due("MARK ahead of a sale", sold.ask(1, 1), 1);
        sold.sell(1, 2, 1);
        CHECK.due("MARK goes by its OWNER", sold.ask(1, 1), 3);
    }

    private static void theTrace() {
        SoupRights x = Check.house("h1,0;n5,0,0;l5,0,0;");
        CHECK.due("trace(0) ahead of asks", x.trace(0), NONE);
        x.ask(0, 1);
        CHECK.due("ask(0, 2)", x.ask(0, 2), BAD);
        CHECK.due("ask(0, -1)", x.ask(0, -1), BAD);
        CHECK.due("ask(2, 0)", x.ask(2, 0), BAD);
        CHECK.due("ask(-1, 0)", x.ask(-1, 0), BAD);
        CHECK.due("trace(0) behind what is BAD", x.trace(0), 21);
        CHECK.due("trace(1) behind what is BAD", x.trace(1), 20);
        CHECK.due("trace(-1)", x.trace(-1), NONE);
        CHECK.due("trace(MIN)", x.trace(Integer.MIN_VALUE), NONE);
        CHECK.due("trace(MAX)", x.trace(Integer.MAX_VALUE), NONE);
        Check.read(x, "h0,0;n1,0,0;");
        CHECK.due("trace(0) behind another house", x.trace(0), 21);
    }

    private static void counts() {
        SoupRights x = Check.house("h1,9;h9,0;n5,1,0;l5,0,0;");
        x.row(3, 0, 0);
        x.row(4, 2, 40);
        x.sell(0, 1, 1);
        x.days(2);
        x.bind(1, 1);
        x.feed('h');
        x.feed('h');
        x.feed('h');
        int[] due = {2, 2, 2, 2, 11, 1, 4, 3};
        for (int what = 0; what < 8; what++) {
            CHECK.due("count(" + what + ")", x.count(what), due[what]);
        }
        CHECK.due("count(8)", x.count(8), BAD);
        CHECK.due("count(-1)", x.count(-1), BAD);
    }
}
