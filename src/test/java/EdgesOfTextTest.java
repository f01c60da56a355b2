/** The edges of promises 6 to 8: the tape, its TOKENS, the HOUSE, its FAULTS, a sentence each. */
public final class EdgesOfTextTest {
    private static final int BAD = SoupRights.BAD, STATE = SoupRights.STATE, FULL = SoupRights.FULL;
    private static final int MIN = Integer.MIN_VALUE, MAX = Integer.MAX_VALUE;
    /** 35 bytes. */
    private static final String FIVE = "h60,20;h60,20;h60,20;h60,20;h60,20;";
    /** 10 bytes, and 9. */
    private static final String TEN = "n20,60,04;", NINE = "n20,60,4;";
    private static final Check CHECK = new Check();

    public static void main(String[] args) {
        feedBytes();
        feedFull();
        tapeOfHundred();
        faultsAtTheEnd();
        emptyTape();
        letters();
        bytesThatAreNoTokens();
        numbers();
        bowlsAndHunger();
        values();
        owners();
        heirsAndRights();
        theEnd();
        leastOfOneToken();
        firstToken();
        everyByte();
        aHouseIsRead();
        aHouseInPlace();
        aFaultLeavesAll();
        faultIsTheLatest();
        CHECK.end("EdgesOfTextTest");
    }

    private static void fits(String text, int rights) {
        SoupRights x = new SoupRights();
        CHECK.due("house() of " + text, Check.read(x, text), rights);
        CHECK.due("fault() of " + text, x.fault(), 0);
    }

    private static void fails(String text, int place, int number) {
        SoupRights x = new SoupRights();
        CHECK.due("house() of " + text, Check.read(x, text), -1000100 - place);
        CHECK.due("fault() of " + text, x.fault(), number);
        CHECK.due("count(1) behind " + text, x.count(1), 0);
        CHECK.due("count(2) behind " + text, x.count(2), 0);
    }

    private static void feedBytes() {
        CHECK.of("Promise 6, a byte (0 to 255): how many it has");
        SoupRights x = new SoupRights();
        CHECK.due("feed(0)", x.feed(0), 1);
        CHECK.due("feed(255)", x.feed(255), 2);
        CHECK.of("Promise 6, BAD");
        for (int letter : new int[] {MIN, MIN + 104, -256, -152, -1, 256, 360, 65536, MAX}) {
            CHECK.due("feed(" + letter + ")", x.feed(letter), BAD);
        }
        CHECK.due("count(7)", x.count(7), 2);
        CHECK.of("Promise 6, behind the tape, one by one");
        SoupRights y = new SoupRights();
        String text = "h1,2;n3,4,0;";
        for (int i = 0; i < text.length(); i++) {
            CHECK.due("feed", y.feed(text.charAt(i)), i + 1);
            CHECK.due("feed(-1)", y.feed(-1), BAD);
            CHECK.due("count(7)", y.count(7), i + 1);
            CHECK.due("no HOUSE yet", y.count(1), 0);
        }
        CHECK.due("house()", y.house(), 1);
    }

    private static void feedFull() {
        CHECK.of("Promise 6, FULL: the tape has at most 100 bytes");
        SoupRights x = new SoupRights();
        for (int i = 1; i <= 100; i++) {
            CHECK.due("feed, byte " + i, x.feed('h'), i);
        }
        CHECK.due("feed('h')", x.feed('h'), FULL);
        CHECK.due("feed(0)", x.feed(0), FULL);
        CHECK.due("feed(255)", x.feed(255), FULL);
        CHECK.due("count(7)", x.count(7), 100);
        CHECK.of("Promise 6, BAD ahead of FULL");
        for (int letter : new int[] {MIN, -1, 256, MAX}) {
            CHECK.due("feed(" + letter + ")", x.feed(letter), BAD);
        }
        CHECK.of("Promise 7, the tape is empty then");
        x.house();
        CHECK.due("count(7)", x.count(7), 0);
        CHECK.due("feed('h')", x.feed('h'), 1);
    }

    private static String hundred() {
        return FIVE + NINE + NINE + NINE + NINE + NINE + TEN + TEN;
    }

    private static void tapeOfHundred() {
        CHECK.of("Promise 7, a tape of 100 bytes");
        SoupRights x = new SoupRights();
        CHECK.due("bytes", hundred().length(), 100);
        for (int i = 0; i < 100; i++) {
            x.feed(hundred().charAt(i));
        }
        CHECK.due("one more", x.feed(';'), FULL);
        CHECK.due("house()", x.house(), 7);
        CHECK.due("HEIRS", x.count(1), 5);
        for (int right = 0; right < 7; right++) {
            CHECK.due("VALUE", x.right(right, 0), 20);
            CHECK.due("DUE", x.right(right, 1), 60);
            CHECK.due("OWNER", x.right(right, 2), 4);
        }
        for (int heir = 0; heir < 5; heir++) {
            CHECK.due("BOWLS", x.heir(heir, 0), 60);
            CHECK.due("HUNGER", x.heir(heir, 1), 20);
        }
        CHECK.due("all BOWLS", x.count(4), 300);
    }

    private static void faultsAtTheEnd() {
        CHECK.of("Promise 7, FAULTS at the end of 100 bytes");
        String six = FIVE + TEN + TEN + TEN + TEN + TEN + TEN;
        fails(six + "n20,6", 100, 1);
        fails(six + "n20,;", 99, 1);
        fails(six + "n20,\0", 99, 1);
        fails(six + "n20,A", 99, 1);
        fails(six + "n2061", 96, 1);
        fails(six + "n2,61", 98, 2);
        fails(FIVE + TEN + TEN + TEN + TEN + TEN + NINE + "n1,1,5", 99, 2);
        fails(FIVE + TEN + NINE + NINE + NINE + NINE + NINE + NINE + "p", 99, 3);
        fails(FIVE + TEN + NINE + NINE + NINE + NINE + NINE + NINE + "h", 99, 1);
        CHECK.of("Promise 7, what was on the tape ahead does not count");
        SoupRights x = new SoupRights();
        Check.read(x, hundred());
        CHECK.due("a shorter text", Check.read(x, "h1,2;n3,4,0"), -1000111);
        CHECK.due("nothing", x.house(), -1000100);
        CHECK.due("a text that fits", Check.read(x, "h1,2;n3,4,0;"), 1);
    }

    private static void emptyTape() {
        CHECK.of("Promise 7, an empty tape");
        fails("", 0, 1);
        SoupRights x = Check.house("h1,2;n3,4,0;");
        CHECK.due("house() once more", x.house(), -1000100);
        CHECK.due("fault()", x.fault(), 1);
        CHECK.due("the HOUSE stays", x.count(2), 1);
    }

    private static void letters() {
        for (char letter = 'a'; letter <= 'z'; letter++) {
            CHECK.of("Promise 7, house: heir ahead");
            if (letter != 'h') {
                fails(letter + "1,2;n3,4,0;", 0, 1);
            }
            CHECK.of("Promise 7, behind an heir an heir, or a right by its SORT");
            String text = "h1,2;" + letter + "3,4,0;";
            int sort = "ntflp".indexOf(letter);
            if (sort >= 0) {
                SoupRights x = Check.house(text);
                CHECK.due("kind(0) of " + text, x.kind(0), sort + 1);
            } else {
                fails(text, letter == 'h' ? 9 : 5, 1);
            }
            CHECK.of("Promise 7, behind a right a right alone");
            if (sort >= 0) {
                fits("h1,2;n3,4,0;" + letter + "3,4,0;", 2);
            } else {
                fails("h1,2;n3,4,0;" + letter + "3,4,0;", 12, 1);
            }
            CHECK.of("Promise 7, letters each by itself");
            fails("h" + letter, 1, 1);
            fails("h1,2;n" + letter, 6, 1);
        }
        CHECK.of("Promise 7, no great letters");
        fails("H1,2;n3,4,0;", 0, 1);
        for (char letter : "NTFLPH".toCharArray()) {
            fails("h1,2;" + letter + "3,4,0;", 5, 1);
        }
    }

    private static void bytesThatAreNoTokens() {
        CHECK.of("Promise 7, nothing else is a TOKEN");
        for (int letter = 0; letter < 256; letter++) {
            boolean isToken = letter >= 'a' && letter <= 'z' || letter >= '0' && letter <= '9'
                || letter == ',' || letter == ';';
            if (!isToken) {
                char c = (char) letter;
                fails(c + "h1,2;n3,4,0;", 0, 1);
                fails("h" + c + "1,2;n3,4,0;", 1, 1);
                fails("h1" + c + ",2;n3,4,0;", 2, 1);
                fails("h1," + c + "2;n3,4,0;", 3, 1);
                fails("h1,2;" + c + "n3,4,0;", 5, 1);
                fails("h1,2;n3,4,0;" + c, 12, 1);
            }
        }
    }

    private static void numbers() {
        CHECK.of("Promise 7, NUMBERS of one or two figures");
        for (int v = 0; v < 10; v++) {
            SoupRights x = Check.house("h" + v + ",0" + v + ";h0,0;n1" + v + ",0" + v + ",01;");
            CHECK.due("BOWLS", x.heir(0, 0), v);
            CHECK.due("HUNGER", x.heir(0, 1), v);
            CHECK.due("VALUE", x.right(0, 0), 10 + v);
            CHECK.due("DUE", x.right(0, 1), v);
            CHECK.due("OWNER", x.right(0, 2), 1);
        }
        CHECK.of("Promise 7, a run of three figures, at its first");
        fails("h000,0;n1,0,0;", 1, 1);
        fails("h0,000;n1,0,0;", 3, 1);
        fails("h0,0;n001,0,0;", 6, 1);
        fails("h0,0;n1,000,0;", 8, 1);
        fails("h0,0;n1,0,000;", 10, 1);
        fails("h0,0;n1,0,000", 10, 1);
        CHECK.of("Promise 7, a run of more figures, at its first");
        fails("h0000,0;n1,0,0;", 1, 1);
        fails("h12345678901234567890", 1, 1);
        fails("h0,0;n1,0,4294967296;", 10, 1);
        CHECK.of("Promise 7, a run of figures where none can stand");
        fails("0h0,0;n1,0,0;", 0, 1);
        fails("000h0,0;n1,0,0;", 0, 1);
        fails("h0,0;000", 5, 1);
        fails("h0,0;n1,0,0;1", 12, 1);
        CHECK.of("Promise 7, figures with something between are two");
        fails("h0 0,0;", 2, 1);
        fails("h0;0,0;", 2, 1);
        fails("h0,,0;", 3, 1);
    }

    private static void bowlsAndHunger() {
        CHECK.of("Promise 7, BOWLS 0 to 60");
        fits("h0,0;n1,0,0;", 1);
        fits("h60,0;n1,0,0;", 1);
        fails("h61,0;n1,0,0;", 1, 2);
        fails("h99,0;n1,0,0;", 1, 2);
        fails("h0,0;h61,0;n1,0,0;", 6, 2);
        CHECK.of("Promise 7, HUNGER 0 to 20");
        fits("h0,20;n1,0,0;", 1);
        fails("h0,21;n1,0,0;", 3, 2);
        fails("h0,99;n1,0,0;", 3, 2);
        fails("h00,21;n1,0,0;", 4, 2);
        fails("h0,0;h0,21;n1,0,0;", 8, 2);
    }

    private static void values() {
        for (char sort : "ntflp".toCharArray()) {
            CHECK.of("Promise 7, VALUE 1 to 20");
            fits("h0,0;" + sort + "1,0,0;", 1);
            fits("h0,0;" + sort + "20,0,0;", 1);
            fails("h0,0;" + sort + "0,0,0;", 6, 2);
            fails("h0,0;" + sort + "00,0,0;", 6, 2);
            fails("h0,0;" + sort + "21,0,0;", 6, 2);
            fails("h0,0;" + sort + "99,0,0;", 6, 2);
            CHECK.of("Promise 7, DUE 0 to 60");
            fits("h0,0;" + sort + "1,00,0;", 1);
            fits("h0,0;" + sort + "1,60,0;", 1);
            fails("h0,0;" + sort + "1,61,0;", 8, 2);
            fails("h0,0;" + sort + "1,99,0;", 8, 2);
        }
    }

    private static void owners() {
        CHECK.of("Promise 7, OWNER: an HEIR told");
        StringBuilder heirs = new StringBuilder();
        for (int many = 1; many <= 5; many++) {
            heirs.append("h0,0;");
            for (int owner = 0; owner < many; owner++) {
                SoupRights x = Check.house(heirs + "n1,0," + owner + ";");
                CHECK.due("whose it is", x.right(0, 2), owner);
                CHECK.due("whose it was FIRST", x.right(0, 3), owner);
                fits(heirs + "n1,0,0" + owner + ";", 1);
            }
            int place = heirs.length() + 5;
            fails(heirs + "n1,0," + many + ";", place, 2);
            fails(heirs + "n1,0,0" + many + ";", place, 2);
            fails(heirs + "n1,0,10;", place, 2);
            fails(heirs + "n1,0,99;", place, 2);
        }
        CHECK.of("Promise 7, an OWNER of a HOUSE before is none");
        SoupRights x = Check.house("h0,0;h0,0;n1,0,1;");
        CHECK.due("house()", Check.read(x, "h0,0;n1,0,1;"), -1000110);
        CHECK.due("fault()", x.fault(), 2);
    }

    private static void heirsAndRights() {
        CHECK.of("Promise 7, HEIRS 5 at most, an heir more by its letter");
        String five = "h0,0;h0,0;h0,0;h0,0;h0,0;";
        fits(five + "n1,0,0;", 1);
        fails(five + "h0,0;n1,0,0;", 25, 3);
        fails(five + "h", 25, 3);
        fails(five + "hh", 25, 3);
        fails(five + "h61,21;", 25, 3);
        CHECK.of("Promise 7, RIGHTS 7 at most, a right more by its letter");
        String seven = "h0,0;n1,0,0;t1,0,0;f1,0,0;l1,0,0;p1,0,0;n1,0,0;n1,0,0;";
        fits(seven, 7);
        for (char sort : "ntflp".toCharArray()) {
            fails(seven + sort + "1,0,0;", 54, 3);
            fails(seven + sort, 54, 3);
            fails(seven + sort + "0", 54, 3);
        }
        CHECK.of("Promise 7, an heir at least, a right at least");
        fails("n1,0,0;", 0, 1);
        fails("h0,0;", 5, 1);
        fails(five, 25, 1);
        CHECK.of("Promise 7, no heir behind a right, though there is room");
        fails("h0,0;n1,0,0;h0,0;", 12, 1);
        fails(seven + "h0,0;", 54, 1);
    }

    private static void theEnd() {
        CHECK.of("Promise 7, the end: how many bytes there are");
        String text = "h12,13;h1,2;n14,15,01;p3,4,0;";
        for (int length = 0; length < text.length(); length++) {
            SoupRights x = new SoupRights();
            String start = text.substring(0, length);
            // behind the first right that is whole it may end
            boolean mayEnd = length == "h12,13;h1,2;n14,15,01;".length();
            CHECK.due("house() of " + start, Check.read(x, start), mayEnd ? 1 : -1000100 - length);
            CHECK.due("fault() of " + start, x.fault(), mayEnd ? 0 : 1);
        }
        fits(text, 2);
    }

    private static void leastOfOneToken() {
        CHECK.of("Promise 7, of one TOKEN the least FAULT");
        // 1, though as a NUMBER it would be too great
        fails("h0,0;61", 5, 1);
        fails("h0,0;n1,0,0;99", 12, 1);
        fails("h100,0;", 1, 1);
        // 1, though there is no room for it, either
        fails("h0,0;h0,0;h0,0;h0,0;h0,0;n1,0,0;h0,0;", 32, 1);
    }

    private static void firstToken() {
        CHECK.of("Promise 7, the first TOKEN that has a FAULT");
        fails("h61,21;n0,61,9;?", 1, 2);
        fails("h60,21;n0,61,9;?", 3 + 1, 2);
        fails("h60,20;n0,61,9;?", 8, 2);
        fails("h60,20;n1,61,9;?", 10, 2);
        fails("h60,20;n1,60,9;?", 13, 2);
        fails("h60,20;n1,60,0;?", 15, 1);
        fails("h61?", 1, 2);
        fails("h61", 1, 2);
    }

    /** Each place of a text with each byte in its place, ahead of it, or without one: as the model tells it. */
    private static void everyByte() {
        CHECK.of("Promise 7, each byte at each place");
        String text = "h10,2;h3,14;n5,60,1;l17,8,0;";
        for (int place = 0; place <= text.length(); place++) {
            String ahead = text.substring(0, place);
            String behind = text.substring(place);
            for (int letter = 0; letter < 256; letter++) {
                asModel(ahead + (char) letter + behind);
                if (!behind.isEmpty()) {
                    asModel(ahead + (char) letter + behind.substring(1));
                }
            }
            asModel(behind);
            if (!behind.isEmpty()) {
                asModel(ahead + behind.substring(1));
            }
        }
    }

    private static void asModel(String text) {
        SoupRights x = new SoupRights();
        SoupModel m = new SoupModel();
        for (int i = 0; i < text.length(); i++) {
            x.feed(text.charAt(i));
            m.feed(text.charAt(i));
        }
        CHECK.due("house() of " + text, x.house(), m.house());
        CHECK.due("fault() of " + text, x.fault(), m.fault());
        CHECK.due("count(4) of " + text, x.count(4), m.count(4));
    }

    private static void aHouseIsRead() {
        CHECK.of("Promise 7, HEIRS and RIGHTS by their numbers");
        SoupRights x = Check.house("h1,11;h2,12;h3,13;h4,14;h5,15;n6,21,4;t7,22,3;f8,23,2;l9,24,1;p10,25,0;n11,26,4;t12,27,4;");
        for (int heir = 0; heir < 5; heir++) {
            CHECK.due("BOWLS of " + heir, x.heir(heir, 0), heir + 1);
            CHECK.due("HUNGER of " + heir, x.heir(heir, 1), heir + 11);
        }
        int[] owners = {4, 3, 2, 1, 0, 4, 4};
        int[] kinds = {1, 2, 3, 4, 5, 1, 2};
        for (int right = 0; right < 7; right++) {
            CHECK.due("VALUE of " + right, x.right(right, 0), right + 6);
            CHECK.due("DUE of " + right, x.right(right, 1), right + 21);
            CHECK.due("OWNER of " + right, x.right(right, 2), owners[right]);
            CHECK.due("FIRST of " + right, x.right(right, 3), owners[right]);
            CHECK.due("bound " + right, x.right(right, 4), 0);
            CHECK.due("kind(" + right + ")", x.kind(right), kinds[right]);
        }
        int[] bits = {16, 8, 4, 2, 1 + 32 + 64};
        for (int heir = 0; heir < 5; heir++) {
            CHECK.due("RIGHTS of " + heir, x.heir(heir, 2), bits[heir]);
        }
    }

    private static void aHouseInPlace() {
        CHECK.of("Promise 7, a HOUSE stands in place of the one before");
        SoupRights x = Check.house("h0,9;h9,0;h1,1;n9,9,0;f4,3,1;n1,1,2;");
        x.sell(0, 1, 1);
        x.bind(0, 1);
        x.bind(2, 1);
        x.days(3);
        CHECK.due("ACTS before", x.count(6), 6);
        CHECK.due("house()", Check.read(x, "h7,2;h8,3;l9,9,0;l8,8,1;"), 2);
        CHECK.due("DAY 0", x.count(3), 0);
        CHECK.due("none is bound", x.right(0, 4) + x.right(1, 4), 0);
        CHECK.due("bind(1, 1): no other one is bound", x.bind(1, 1), 2);
        x.undo();
        CHECK.due("nothing was sold", x.count(5), 0);
        CHECK.due("no ACT can be undone", x.count(6), 0);
        CHECK.due("undo()", x.undo(), STATE);
        CHECK.due("HEIRS", x.count(1), 2);
        CHECK.due("heir(2, 0)", x.heir(2, 0), BAD);
        CHECK.due("right(2, 0)", x.right(2, 0), BAD);
        CHECK.due("all BOWLS", x.count(4), 15);
        CHECK.due("whose it is", x.right(0, 2), 0);
        CHECK.due("claims()", x.claims(), 0);
        CHECK.of("Promise 7, the same HOUSE read once more begins anew");
        x.days(9);
        x.bind(0, 1);
        CHECK.due("house()", Check.read(x, "h7,2;h8,3;l9,9,0;l8,8,1;"), 2);
        CHECK.same("as a new object's", Check.seen(x), Check.seen(Check.house("h7,2;h8,3;l9,9,0;l8,8,1;")));
    }

    private static SoupRights busy() {
        SoupRights x = Check.house("h0,9;h9,0;n9,9,0;");
        Check.row(x, 0, 1, 3, 4, 5);
        x.sell(0, 1, 1);
        x.image(1);
        x.bind(0, 1);
        x.days(2);
        x.ask(0, 1);
        x.set(0, 9, 9);
        return x;
    }

    private static void aFaultLeavesAll() {
        CHECK.of("Promise 7, all stays behind a FAULT, but the tape is empty");
        String before = Check.bare(busy()).replaceAll("fault \\d", "fault 0");
        String[] texts = {"", "h", "h61", "h1,1;n1,1,1", "h5,5;h5,5;h5,5;h5,5;h5,5;h5,5;",
            "h5,5;h5,5;h5,5;h5,5;h5,5;n1,1,0;n1,1,0;n1,1,0;n1,1,0;n1,1,0;n1,1,0;n1,1,0;n", "h7,7;n7,7,0;x"};
        for (String text : texts) {
            SoupRights x = busy();
            int answer = Check.read(x, text);
            CHECK.same("a FAULT of " + text, answer <= -1000100 && answer >= -1000200, true);
            CHECK.due("count(7) behind " + text, x.count(7), 0);
            String want = Check.bare(withFault(busy(), x.fault()));
            CHECK.same("all of it behind " + text, Check.bare(x), want);
            CHECK.same("and as without it", want.replaceAll("fault \\d", "fault 0"), before);
        }
    }

    /** As it is, but for the number of the latest FAULT. */
    private static SoupRights withFault(SoupRights x, int number) {
        Check.read(x, number == 1 ? "!" : number == 2 ? "h99" : "h0,0;h0,0;h0,0;h0,0;h0,0;h");
        return x;
    }

    private static void faultIsTheLatest() {
        SoupRights x = new SoupRights();
        CHECK.of("Promise 8, 0 before one");
        CHECK.due("fault()", x.fault(), 0);
        Check.read(x, "h1,1;n1,1,0;");
        CHECK.due("fault() behind a text that fits", x.fault(), 0);
        x.feed(999);
        x.row(9, 9, 9);
        x.set(0, 0, 0);
        CHECK.due("fault() behind refusals", x.fault(), 0);
        CHECK.of("Promise 8, the number of the latest FAULT");
        Check.read(x, "h0,0;h0,0;h0,0;h0,0;h0,0;h");
        CHECK.due("fault()", x.fault(), 3);
        CHECK.due("fault() once more", x.fault(), 3);
        x.feed('?');
        CHECK.due("fault() of what is not read yet", x.fault(), 3);
        x.house();
        CHECK.due("fault()", x.fault(), 1);
        Check.read(x, "h0,0;n0");
        CHECK.due("fault()", x.fault(), 2);
        Check.read(x, "h1,1;n1,1,0;");
        CHECK.due("fault() is the latest one yet", x.fault(), 2);
        x.days(1);
        x.undo();
        x.image(0);
        x.restore(0);
        CHECK.due("fault() behind other calls", x.fault(), 2);
    }
}
