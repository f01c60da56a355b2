import java.util.ArrayList;
import java.util.Arrays;
import java.util.List;

/**
 * Every number that a call takes, at the least and the greatest, one below,
 * one above, and over the whole range of an int; and each call without a
 * HOUSE. A line of the table is a promise.
 */
public final class BoundsTest {
    private static final int BAD = SoupRights.BAD, STATE = SoupRights.STATE;
    private static final int MIN = Integer.MIN_VALUE, MAX = Integer.MAX_VALUE;
    /** A number for which the document tells no bound whose breach is BAD. */
    private static final int[] ANY = {MIN, MAX};
    /** Where DAY does not come into it, HEIR 0 is as hungry as can be, so that sales can be. */
    private static final String FIVE = "h3,20;h60,0;h60,0;h0,3;h60,1;n9,1,0;t8,3,1;f7,2,2;l6,9,3;p5,9,4;n4,2,0;n9,1,0;";
    private static final String ONE = "h60,20;n9,1,0;";
    private static final Check CHECK = new Check();

    private interface Call {
        long on(SoupRights x, int... a);
    }

    private static final class Line {
        final int promise;
        final String name;
        /** What is due without a HOUSE, for any arguments; 0: it does not ask for one. */
        final int homeless;
        final Call call;
        final int[][] spans;

        Line(int promise, String name, int homeless, Call call, int[]... spans) {
            this.promise = promise;
            this.name = name;
            this.homeless = homeless;
            this.call = call;
            this.spans = spans;
        }
    }

    private final String text;
    private final List<Line> lines = new ArrayList<>();
    private final int[] heirs, rights;
    private final int[] rows = {0, 7}, oneOrNot = {0, 1}, sixty = {0, 60};

    private BoundsTest(String text, int heirs, int rights) {
        this.text = text;
        this.heirs = new int[] {0, heirs - 1};
        this.rights = new int[] {0, rights - 1};
        actsAndRows();
        foretold();
        asked();
    }

    public static void main(String[] args) {
        for (BoundsTest each : new BoundsTest[] {new BoundsTest(FIVE, 5, 7), new BoundsTest(ONE, 1, 1)}) {
            for (Line line : each.lines) {
                each.atTheBounds(line);
                each.withoutAHouse(line);
            }
        }
        CHECK.end("BoundsTest");
    }

    private void add(int promise, String name, int homeless, Call call, int[]... spans) {
        lines.add(new Line(promise, name, homeless, call, spans));
    }

    private void actsAndRows() {
        add(2, "row", 0, (x, a) -> x.row(a[0], a[1], a[2]), rows, new int[] {0, 2}, new int[] {MIN, 40});
        add(3, "set", 0, (x, a) -> x.set(a[0], a[1], a[2]), rows, ANY, ANY);
        add(4, "copy", 0, (x, a) -> x.copy(a[0], a[1], a[2], a[3], a[4]), rows, ANY, rows, ANY, ANY);
        add(5, "drop", 0, (x, a) -> x.drop(a[0]), rows);
        add(6, "feed", 0, (x, a) -> x.feed(a[0]), new int[] {0, 255});
        add(10, "days", STATE, (x, a) -> x.days(a[0]), new int[] {1, 24});
        add(12, "bind", BAD, (x, a) -> x.bind(a[0], a[1]), rights, oneOrNot);
        add(14, "wolves", BAD, (x, a) -> x.wolves(a[0]), heirs);
        add(15, "right", BAD, (x, a) -> x.right(a[0], a[1]), rights, new int[] {0, 4});
        add(16, "heir", BAD, (x, a) -> x.heir(a[0], a[1]), heirs, new int[] {0, 2});
        add(17, "worth", BAD, (x, a) -> x.worth(a[0], a[1]), rights, heirs);
        // of those that refuse some pairs of their numbers one is held, that there is always another one
        if (heirs[1] > 0) {
            add(11, "sell 0", BAD, (x, a) -> x.sell(0, a[0], a[1]), new int[] {1, heirs[1]}, new int[] {1, 99});
            add(11, "sell to 3", BAD, (x, a) -> x.sell(a[0], 3, a[1]), new int[] {0, 6}, new int[] {1, 99});
            add(13, "give to 0", BAD, (x, a) -> x.give(a[0], 0, a[1]), new int[] {1, heirs[1]}, new int[] {1, 60});
            add(13, "give of 4", BAD, (x, a) -> x.give(4, a[0], a[1]), new int[] {0, 3}, new int[] {1, 60});
            add(26, "surplus of 0", BAD, (x, a) -> x.surplus(0, a[0]), new int[] {1, heirs[1]});
            add(26, "surplus to 3", BAD, (x, a) -> a[0] == 3 ? x.surplus(3, 0) : x.surplus(a[0], 3), rights);
            add(32, "peace of 0", BAD, (x, a) -> x.peace(0, a[0]), new int[] {1, heirs[1]});
            add(32, "peace to 4", BAD, (x, a) -> x.peace(a[0], 4), new int[] {0, 3});
        }
    }

    private void foretold() {
        add(18, "ahead", BAD, (x, a) -> x.ahead(a[0], a[1], a[2]), heirs, sixty, oneOrNot);
        add(19, "whose", BAD, (x, a) -> x.whose(a[0], a[1]), rights, sixty);
        add(20, "eats", BAD, (x, a) -> x.eats(a[0], a[1]), heirs, sixty);
        add(21, "starves", BAD, (x, a) -> x.starves(a[0]), heirs);
        add(22, "richest", STATE, (x, a) -> x.richest(a[0]), sixty);
        add(23, "price", BAD, (x, a) -> x.price(a[0]), rights);
        add(24, "cheap", BAD, (x, a) -> x.cheap(a[0], a[1], a[2]), rights, new int[] {0, 30}, oneOrNot);
        add(25, "sales", STATE, (x, a) -> x.sales(a[0]), oneOrNot);
        add(27, "bonds", BAD, (x, a) -> x.bonds(a[0], a[1]), heirs, oneOrNot);
        add(28, "barter", STATE, (x, a) -> x.barter(a[0], a[1]), new int[] {1, 3}, oneOrNot);
        add(29, "whatSold", STATE, (x, a) -> x.whatSold(a[0], a[1], a[2]), rows, ANY, oneOrNot);
        add(30, "who", BAD, (x, a) -> x.who(a[0], a[1], a[2], a[3]), rights, rows, ANY, new int[] {1, 12});
        add(33, "prowl", STATE, (x, a) -> x.prowl(a[0], a[1], a[2]), new int[] {0, 5}, new int[] {0, 10}, oneOrNot);
        add(34, "drawn", STATE, (x, a) -> x.drawn(a[0], a[1], a[2]), sixty, new int[] {1, 999999}, oneOrNot);
        // these two are BAD ahead of STATE; of no HOUSE they are asked in EdgesOfForetoldTest
        add(35, "image", 0, (x, a) -> x.image(a[0]), oneOrNot);
        add(36, "restore", 0, (x, a) -> x.restore(a[0]), oneOrNot);
    }

    private void asked() {
        add(37, "kind", BAD, (x, a) -> x.kind(a[0]), rights);
        add(38, "as", BAD, (x, a) -> x.as(a[0], a[1]), rights, new int[] {0, 5});
        add(39, "ask", BAD, (x, a) -> x.ask(a[0], a[1]), rights, oneOrNot);
        add(41, "count", 0, (x, a) -> x.count(a[0]), new int[] {0, 7});
    }

    /** A HOUSE with ROWS that are there, and all else that a refusal must leave. */
    private SoupRights standing() {
        SoupRights x = Check.house(text);
        for (int row = 0; row < 8; row++) {
            Check.row(x, row, row % 3, row, 2);
        }
        x.image(1);
        x.bind(0, 1);
        x.wolves(0);
        x.ask(0, 0);
        x.feed('h');
        x.drop(5);
        x.drop(5);
        return x;
    }

    private void atTheBounds(Line line) {
        int[] least = new int[line.spans.length];
        int[] greatest = new int[line.spans.length];
        for (int k = 0; k < least.length; k++) {
            least[k] = line.spans[k][0];
            greatest[k] = line.spans[k][1];
        }
        CHECK.of("Promise " + line.promise + ", at the bounds");
        for (int[] held : new int[][] {least, greatest}) {
            for (int k = 0; k < least.length; k++) {
                for (int bound : line.spans[k]) {
                    int[] a = held.clone();
                    a[k] = bound;
                    CHECK.same(told(line, a) + " is BAD", line.call.on(standing(), a) == BAD, false);
                }
                beyond(line, held, k);
            }
        }
    }

    private void beyond(Line line, int[] held, int k) {
        CHECK.of("Promise " + line.promise + ", BAD beyond the bounds");
        SoupRights x = standing();
        String before = Check.seen(x);
        for (int odd : beyond(line.spans[k])) {
            int[] a = held.clone();
            a[k] = odd;
            CHECK.due(told(line, a), line.call.on(x, a), BAD);
        }
        CHECK.same("what is seen behind " + line.name, Check.seen(x), before);
        CHECK.due("status() behind " + line.name, x.status(), 1);
    }

    /** Numbers beyond a span: next to it, far off, and such as would be in it if bits were lost. */
    private static List<Integer> beyond(int[] span) {
        long[] odd = {span[0] - 1L, span[1] + 1L, -span[1] - 1L, span[0] + 256L, span[0] + 65536L,
            (long) MIN + span[0], (long) MIN + span[1], MIN, MIN + 1, -65536, -256, 1000000, MAX - 1, MAX};
        List<Integer> all = new ArrayList<>();
        for (long each : odd) {
            if (each >= MIN && each <= MAX && (each < span[0] || each > span[1])) {
                all.add((int) each);
            }
        }
        return all;
    }

    private void withoutAHouse(Line line) {
        if (line.homeless == 0) {
            return;
        }
        CHECK.of("Promise " + line.promise + ", without a HOUSE");
        SoupRights x = new SoupRights();
        x.row(0, 0, 40);
        x.row(0, 0, -1);
        String before = Check.seen(x);
        for (int[] span : line.spans) {
            for (int odd : new int[] {MIN, span[0] == MIN ? MIN : span[0] - 1, span[0], span[1],
                span[1] == MAX ? MAX : span[1] + 1, MAX}) {
                int[] a = new int[line.spans.length];
                Arrays.fill(a, odd);
                CHECK.due(told(line, a), line.call.on(x, a), line.homeless);
            }
        }
        CHECK.same("what is seen behind " + line.name, Check.seen(x), before);
        CHECK.due("status() behind " + line.name, x.status(), 4);
    }

    private static String told(Line line, int[] a) {
        return line.name + Arrays.toString(a);
    }
}
