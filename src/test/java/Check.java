import java.util.Objects;

/** What the tests share: counts the answers that are not the ones due. */
final class Check {
    private int asked;
    private int wrong;
    private String sentence = "";

    /** The promise, and its sentence, that the answers due from here on hold. */
    void of(String promiseAndSentence) {
        sentence = promiseAndSentence + ": ";
    }

    void due(String call, long got, long want) {
        asked++;
        if (got != want) {
            wrong++;
            System.out.println(sentence + call + " answered " + got + ", due is " + want);
        }
    }

    void same(String what, Object got, Object want) {
        asked++;
        if (!Objects.equals(got, want)) {
            wrong++;
            System.out.println(sentence + what + ": " + differing(got, want) + ", due is " + differing(want, got));
        }
    }

    /** Of two long texts, the part from shortly ahead of where they differ. */
    private static String differing(Object one, Object other) {
        String a = String.valueOf(one);
        String b = String.valueOf(other);
        int i = 0;
        while (i < a.length() && i < b.length() && a.charAt(i) == b.charAt(i)) {
            i++;
        }
        return a.length() < 200 ? a : ".." + a.substring(Math.max(i - 60, 0), Math.min(i + 40, a.length())) + "..";
    }

    int wrong() {
        return wrong;
    }

    void end(String name) {
        System.out.println(name + ": " + asked + " answers, " + wrong + " not as due");
        if (wrong != 0) {
            System.exit(1);
        }
    }

    static SoupRights house(String text) {
        SoupRights x = new SoupRights();
        read(x, text);
        return x;
    }

    static int read(SoupRights x, String text) {
        for (int i = 0; i < text.length(); i++) {
            x.feed(text.charAt(i));
        }
        return x.house();
    }

    static void row(SoupRights x, int row, int lane, int... items) {
        x.row(row, lane, items.length);
        for (int i = 0; i < items.length; i++) {
            x.set(row, i, items[i]);
        }
    }

    /** All that can be seen of an object without changing it, but status(). */
    static String seen(SoupRights x) {
        StringBuilder all = new StringBuilder();
        for (int what = 0; what < 8; what++) {
            all.append(x.count(what)).append(' ');
        }
        for (int right = 0; right < 7; right++) {
            all.append("/ ").append(x.kind(right)).append(' ');
            for (int what = 0; what < 5; what++) {
                all.append(x.right(right, what)).append(' ');
            }
        }
        for (int heir = 0; heir < 5; heir++) {
            all.append("| ");
            for (int what = 0; what < 3; what++) {
                all.append(x.heir(heir, what)).append(' ');
            }
        }
        all.append("fault ").append(x.fault()).append(" trace ");
        for (int i = 0; i < 16; i++) {
            all.append(x.trace(i)).append(' ');
        }
        return all.toString();
    }

    /**
     * All that an object holds, seen or hidden: ACTS, IMAGES, the tape, ROWS.
     * It is of no use any more behind this.
     */
    static String bare(SoupRights x) {
        StringBuilder all = new StringBuilder(seen(x)).append(" status ").append(x.status());
        for (int i = 0; i < 26; i++) {
            all.append("\nundo ").append(x.undo()).append(' ').append(seen(x));
        }
        for (int k = 0; k < 2; k++) {
            all.append("\nimage ").append(x.restore(k)).append(' ').append(seen(x));
        }
        // what the tape tells is disclosed by how it goes on: a place of a FAULT, or a HOUSE
        all.append("\ntape ").append(x.house()).append(' ').append(seen(x));
        for (int row = 0; row < 8; row++) {
            all.append("\nrow ").append(row).append(": ").append(items(x, row));
        }
        return all.toString();
    }

    /** The size, the ITEMS that can be seen (0 to 59, else '?') and the LANE of a ROW; the house is lost. */
    static String items(SoupRights x, int row) {
        StringBuilder all = new StringBuilder();
        int size = 0;
        while (size < 41 && x.copy(row, size, row, size, 1) == 1) {
            size++;
        }
        all.append(x.copy(row, 0, row, 0, 0)).append(" of ").append(size).append(':');
        for (int i = 0; i < size; i++) {
            int item = -1;
            for (int v = 0; v < 60 && item < 0; v++) {
                item = is(x, row, i, v) ? v : -1;
            }
            all.append(' ').append(item < 0 ? "?" : "" + item);
        }
        // of this number each LANE keeps something else
        return all.append(" lane ").append(x.set(row, 0, 65536 + 200)).toString();
    }

    /**
     * Whether an ITEM is v, from 0 to 59; the house is lost. No call tells an
     * ITEM, but who() says whether it is what an HEIR has behind a DAY.
     */
    static boolean is(SoupRights x, int row, int i, int v) {
        read(x, "h" + (v + 1) + ",0;n1,60,0;");
        return x.who(0, row, i, 1) >= 0 && (x.who(0, row, i, 1) & 2) != 0;
    }
}
