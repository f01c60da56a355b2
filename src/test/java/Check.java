import java.util.Objects;

/** What the tests share: counts the answers that are not the ones due. */
final class Check {
    private int asked;
    private int wrong;

    void due(String call, long got, long want) {
        asked++;
        if (got != want) {
            wrong++;
            System.out.println(call + " answered " + got + ", due is " + want);
        }
    }

    void same(String what, Object got, Object want) {
        asked++;
        if (!Objects.equals(got, want)) {
            wrong++;
            System.out.println(what + ": " + got + ", due is " + want);
        }
    }

    int wrong() {
        return wrong;
    }

    void end(String name) {
        System.out.println(name + ": " + asked + " answers, " + wrong + " not as due");
        if (wrong != 0) {
            System.exit(1);
        }
    }

    static SoupRights house(String text) {
        SoupRights x = new SoupRights();
        read(x, text);
        return x;
    }

    static int read(SoupRights x, String text) {
        for (int i = 0; i < text.length(); i++) {
            x.feed(text.charAt(i));
        }
        return x.house();
    }

    static void row(SoupRights x, int row, int lane, int... items) {
        x.row(row, lane, items.length);
        for (int i = 0; i < items.length; i++) {
            x.set(row, i, items[i]);
        }
    }

    /** All that can be seen of an object without changing it, but status(). */
    static String seen(SoupRights x) {
        StringBuilder all = new StringBuilder();
        for (int what = 0; what < 8; what++) {
            all.append(x.count(what)).append(' ');
        }
        for (int right = 0; right < 7; right++) {
            all.append("/ ").append(x.kind(right)).append(' ');
            for (int what = 0; what < 5; what++) {
                all.append(x.right(right, what)).append(' ');
            }
        }
        for (int heir = 0; heir < 5; heir++) {
            all.append("| ");
            for (int what = 0; what < 3; what++) {
                all.append(x.heir(heir, what)).append(' ');
            }
        }
        all.append("fault ").append(x.fault()).append(" trace ");
        for (int i = 0; i < 16; i++) {
            all.append(x.trace(i)).append(' ');
        }
        return all.toString();
    }
}
