/**
 * A birthright for red soup: heirs who are hungry and have bowls, and the
 * rights that they sell for them. The document DOC.md tells each call.
 */
public final class SoupRights {
    public static final int NONE = -1000000, BAD = -1000001, STATE = -1000002, FULL = -1000003;

    private static final int FOUND = -1000010;
    private static final int FAULTY = -1000100;

    private static final int MISSING_ROW = 1, NO_PLACE = 2, OTHER_KIND = 3, BELOW_NONE = 4, TWO_LANES = 5;

    private static final int ROWS = 8, LANES = 3, MOST_ITEMS = 40;
    private static final int MOST_BYTES = 100;
    private static final int MOST_HEIRS = 5, MOST_RIGHTS = 7;
    private static final int MOST_BOWLS = 99, MOST_HUNGER = 20, LAST_DAY = 999;
    private static final int MOST_ACTS = 24, IMAGES = 2;
    private static final int FAR_SIGHT = 60;

    private static final int NAME = 1, TWIN = 2, FRUIT = 3, LOAN = 4, PROXY = 5;
    /** By KIND: the KIND that it is, too; below 0 there is none. */
    private static final int[] PARENT = {-1, 0, 1, 1, 0, 4};
    /** By KIND: the BODY that begins when SIZE is asked. */
    private static final int[] SIZE_BODY = {10, 11, 12, 11, 13, 14};
    /** By KIND: the BODY that begins when MARK is asked. */
    private static final int[] MARK_BODY = {20, 21, 24, 22, 23, 23};

    private final Shelf shelf = new Shelf();
    private final Tape tape = new Tape();
    private final House now = new House();
    private final House[] images = new House[IMAGES];
    private final Acts acts = new Acts();
    private final Foresight foresight = new Foresight();
    private final Barter barters = new Barter();
    private final Asks asks = new Asks();
    private int latestFault;
    private int latestFinding;

    public SoupRights() {
        for (int k = 0; k < IMAGES; k++) {
            images[k] = new House();
        }
    }

    // ---- rows

    public int row(int row, int lane, int n) {
        if (!isRow(row) || !isWithin(lane, 0, LANES - 1) || n > MOST_ITEMS) {
            return BAD;
        }
        if (n < 0) {
            return found(BELOW_NONE);
        }
        shelf.place(row, lane, n);
        return foundNothing(n);
    }

    public int set(int row, int i, int v) {
        if (!isRow(row)) {
            return BAD;
        }
        int finding = shelf.findingIn(row, i, 1);
        if (finding != 0) {
            return found(finding);
        }
        return foundNothing(shelf.write(row, i, v));
    }

    public int copy(int a, int i, int b, int j, int n) {
        if (!isRow(a) || !isRow(b)) {
            return BAD;
        }
        int finding = shelf.findingBetween(a, i, b, j, n);
        if (finding != 0) {
            return found(finding);
        }
        System.arraycopy(shelf.items[a], i, shelf.items[b], j, n);
        return foundNothing(n);
    }

    public int drop(int row) {
        if (!isRow(row)) {
            return BAD;
        }
        int size = shelf.sizes[row];
        if (size == Shelf.MISSING) {
            return found(MISSING_ROW);
        }
        shelf.sizes[row] = Shelf.MISSING;
        return foundNothing(size);
    }

    // ---- what is told

    public int feed(int letter) {
        if (!isWithin(letter, 0, 255)) {
            return BAD;
        }
        if (tape.length >= MOST_BYTES) {
            return FULL;
        }
        tape.append(letter);
        return tape.length;
    }

    public int house() {
        tape.readHouse();
        tape.length = 0;
        if (tape.faultNumber != 0) {
            latestFault = tape.faultNumber;
            return FAULTY - tape.spot;
        }
        now.become(tape.told);
        acts.forget();
        return now.rights;
    }

    public int fault() {
        return latestFault;
    }

    public int undo() {
        if (acts.size == 0) {
            return STATE;
        }
        acts.takeBack(now);
        return acts.size;
    }

    // ---- what is done

    public int days(int n) {
        if (!now.stands()) {
            return STATE;
        }
        if (!isWithin(n, 1, MOST_ACTS)) {
            return BAD;
        }
        if (now.day + n > LAST_DAY) {
            return FULL;
        }
        for (int i = 0; i < n; i++) {
            acts.keep(now);
            now.passDay();
        }
        return now.day;
    }

    public int sell(int right, int heir, int n) {
        if (!now.hasRight(right) || !now.hasHeir(heir) || !isWithin(n, 1, MOST_BOWLS)) {
            return BAD;
        }
        int seller = now.owner[right];
        if (heir == seller) {
            return BAD;
        }
        if (!now.canBuy(right, heir, n)) {
            return STATE;
        }
        acts.keep(now);
        now.trade(right, heir, n);
        return now.bowls[seller];
    }

    public int bind(int right, int on) {
        if (!now.hasRight(right) || !isWithin(on, 0, 1)) {
            return BAD;
        }
        if (now.isBound(right) == (on == 1)) {
            return STATE;
        }
        acts.keep(now);
        now.bound ^= 1 << right;
        return now.bound;
    }

    public int give(int heir, int other, int n) {
        if (!now.hasHeir(heir) || !now.hasHeir(other) || heir == other || !isWithin(n, 1, 60)) {
            return BAD;
        }
        if (now.bowls[heir] < n) {
            return STATE;
        }
        acts.keep(now);
        now.handOver(heir, other, n);
        return now.bowls[other];
    }

    public int wolves(int heir) {
        if (!now.hasHeir(heir)) {
            return BAD;
        }
        acts.keep(now);
        now.comeWolves(heir);
        return now.bowls[heir];
    }

    public int right(int right, int what) {
        if (!now.hasRight(right)) {
            return BAD;
        }
        switch (what) {
            case 0: return now.value[right];
            case 1: return now.due[right];
            case 2: return now.owner[right];
            case 3: return now.first[right];
            case 4: return now.isBound(right) ? 1 : 0;
            default: return BAD;
        }
    }

    public int heir(int heir, int what) {
        if (!now.hasHeir(heir)) {
            return BAD;
        }
        switch (what) {
            case 0: return now.bowls[heir];
            case 1: return now.hunger[heir];
            case 2: return now.rightsOf(heir);
            default: return BAD;
        }
    }

    public int worth(int right, int heir) {
        if (!now.hasRight(right) || !now.hasHeir(heir)) {
            return BAD;
        }
        return now.worthTo(right, heir);
    }

    // ---- foretold

    public int ahead(int heir, int n, int what) {
        if (!now.hasHeir(heir) || !isWithin(n, 0, FAR_SIGHT) || !isWithin(what, 0, 1)) {
            return BAD;
        }
        House then = foresight.look(now, n);
        return what == 0 ? then.bowls[heir] : then.hunger[heir];
    }

    public int whose(int right, int n) {
        if (!now.hasRight(right) || !isWithin(n, 0, FAR_SIGHT)) {
            return BAD;
        }
        return foresight.look(now, n).owner[right];
    }

    public int eats(int heir, int n) {
        if (!now.hasHeir(heir) || !isWithin(n, 0, FAR_SIGHT)) {
            return BAD;
        }
        return foresight.mealsOf(now, heir, n);
    }

    public int starves(int heir) {
        if (!now.hasHeir(heir)) {
            return BAD;
        }
        return foresight.daysToStarving(now, heir);
    }

    public int richest(int n) {
        if (!now.stands()) {
            return STATE;
        }
        if (!isWithin(n, 0, FAR_SIGHT)) {
            return BAD;
        }
        return foresight.look(now, n).whoHasMost();
    }

    public int price(int right) {
        if (!now.hasRight(right)) {
            return BAD;
        }
        return now.priceOf(right);
    }

    public int cheap(int right, int n, int what) {
        if (!now.hasRight(right) || !isWithin(n, 0, 30) || !isWithin(what, 0, 1)) {
            return BAD;
        }
        return foresight.cheapest(now, right, n, what);
    }

    public int sales(int what) {
        if (!now.stands()) {
            return STATE;
        }
        if (!isWithin(what, 0, 1)) {
            return BAD;
        }
        return what == 0 ? now.howManySales() : now.firstSale();
    }

    public int surplus(int right, int heir) {
        if (!now.hasRight(right) || !now.hasHeir(heir) || heir == now.owner[right]) {
            return BAD;
        }
        return now.worthTo(right, heir) - now.worthTo(right, now.owner[right]) + 1000;
    }

    public int bonds(int heir, int what) {
        if (!now.hasHeir(heir) || !isWithin(what, 0, 1)) {
            return BAD;
        }
        int needed = now.rightsForSaleOf(heir);
        return what == 0 ? Integer.bitCount(needed) : needed;
    }

    public int barter(int n, int what) {
        if (!now.stands()) {
            return STATE;
        }
        if (!isWithin(n, 1, Barter.MOST_SALES) || !isWithin(what, 0, 1)) {
            return BAD;
        }
        barters.search(now, n);
        return what == 0 ? barters.greatest : barters.firstSale;
    }

    public int whatSold(int row, int i, int what) {
        if (!now.stands()) {
            return STATE;
        }
        if (!isRow(row) || !isWithin(what, 0, 1)) {
            return BAD;
        }
        int finding = shelf.findingIn(row, i, now.heirs);
        if (finding != 0) {
            return found(finding);
        }
        return foundNothing(foresight.salesThatFit(now, shelf.items[row], i, what));
    }

    public int who(int right, int row, int i, int n) {
        if (!now.hasRight(right) || !isRow(row) || !isWithin(n, 1, 12)) {
            return BAD;
        }
        int finding = shelf.findingIn(row, i, n);
        if (finding != 0) {
            return found(finding);
        }
        return foundNothing(foresight.kindsThatFit(now, right, shelf.items[row], i, n));
    }

    public int claims() {
        return now.stands() ? now.rightsInOtherHands() : STATE;
    }

    public int peace(int heir, int other) {
        if (!now.hasHeir(heir) || !now.hasHeir(other) || heir == other) {
            return BAD;
        }
        return foresight.leastGift(now, heir, other);
    }

    public long prowl(int k, int p, int what) {
        if (!now.stands()) {
            return STATE;
        }
        if (!isWithin(k, 0, MOST_HEIRS) || !isWithin(p, 0, 10) || !isWithin(what, 0, 1)) {
            return BAD;
        }
        long above = foresight.casesInWhichEnoughEat(now, k, p);
        long below = Foresight.allCases(now.heirs);
        long shared = greatestDivisor(above, below);
        return (what == 0 ? above : below) / shared;
    }

    public int drawn(int n, int seed, int what) {
        if (!now.stands()) {
            return STATE;
        }
        if (!isWithin(n, 0, FAR_SIGHT) || !isWithin(seed, 1, 999999) || !isWithin(what, 0, 1)) {
            return BAD;
        }
        int sold = foresight.drawYears(now, n, seed);
        return what == 0 ? sold : foresight.draft.bowlsOfAll();
    }

    public int image(int k) {
        if (!isWithin(k, 0, IMAGES - 1)) {
            return BAD;
        }
        if (!now.stands()) {
            return STATE;
        }
        images[k].become(now);
        return 1;
    }

    public int restore(int k) {
        if (!isWithin(k, 0, IMAGES - 1)) {
            return BAD;
        }
        if (!images[k].stands()) {
            return STATE;
        }
        now.become(images[k]);
        acts.forget();
        return 1;
    }

    // ---- asked

    public int kind(int one) {
        if (!now.hasRight(one)) {
            return BAD;
        }
        return now.sort[one];
    }

    public int as(int one, int kind) {
        if (!now.hasRight(one) || !isWithin(kind, 0, PROXY)) {
            return BAD;
        }
        if (!isOfKind(now.sort[one], kind)) {
            return found(OTHER_KIND);
        }
        return foundNothing(one);
    }

    public int ask(int one, int what) {
        if (!now.hasRight(one) || !isWithin(what, 0, 1)) {
            return BAD;
        }
        return asks.begin(now, one, what);
    }

    public int trace(int i) {
        return isWithin(i, 0, asks.left - 1) ? asks.numbers[i] : NONE;
    }

    public int count(int what) {
        switch (what) {
            case 0: return shelf.howMany();
            case 1: return now.heirs;
            case 2: return now.rights;
            case 3: return now.day;
            case 4: return now.bowlsOfAll();
            case 5: return now.sold;
            case 6: return acts.size;
            case 7: return tape.length;
            default: return BAD;
        }
    }

    public int status() {
        return latestFinding;
    }

    private int found(int finding) {
        latestFinding = finding;
        return FOUND - finding;
    }

    private int foundNothing(int answer) {
        latestFinding = 0;
        return answer;
    }

    private static boolean isWithin(int number, int least, int most) {
        return number >= least && number <= most;
    }

    private static boolean isRow(int row) {
        return isWithin(row, 0, ROWS - 1);
    }

    private static boolean isOfKind(int kind, int wanted) {
        int each = kind;
        for (int step = 0; step < PARENT.length && isWithin(each, 0, PROXY); step++) {
            if (each == wanted) {
                return true;
            }
            each = PARENT[each];
        }
        return false;
    }

    /** Of two numbers of which the second is above 0. */
    private static long greatestDivisor(long one, long other) {
        long a = other;
        long b = one;
        // Euclid's rest at least halves in two steps, so 128 steps are beyond any long's need.
        for (int step = 0; step < 128 && b != 0; step++) {
            long rest = a % b;
            a = b;
            b = rest;
        }
        return a == 0 ? 1 : a;
    }

    /** The ROWS. */
    private static final class Shelf {
        static final int MISSING = -1;

        final int[][] items = new int[ROWS][MOST_ITEMS];
        final int[] lanes = new int[ROWS];
        final int[] sizes = new int[ROWS];

        Shelf() {
            for (int row = 0; row < ROWS; row++) {
                sizes[row] = MISSING;
            }
        }

        void place(int row, int lane, int n) {
            lanes[row] = lane;
            sizes[row] = n;
            for (int i = 0; i < n; i++) {
                items[row][i] = 0;
            }
        }

        int write(int row, int i, int v) {
            items[row][i] = lowestBits(lanes[row], v);
            return items[row][i];
        }

        private static int lowestBits(int lane, int v) {
            switch (lane) {
                case 0: return (byte) v;
                case 1: return (short) v;
                default: return v;
            }
        }

        /** What is found at n ITEMS of a ROW from i on; 0: nothing. */
        int findingIn(int row, int i, int n) {
            if (sizes[row] == MISSING) {
                return MISSING_ROW;
            }
            return holds(row, i, n) ? 0 : NO_PLACE;
        }

        int findingBetween(int a, int i, int b, int j, int n) {
            if (sizes[a] == MISSING || sizes[b] == MISSING) {
                return MISSING_ROW;
            }
            if (lanes[a] != lanes[b]) {
                return TWO_LANES;
            }
            return holds(a, i, n) && holds(b, j, n) ? 0 : NO_PLACE;
        }

        private boolean holds(int row, int i, int n) {
            // The sum of i and n could wrap around; what is left behind n can not.
            return i >= 0 && n >= 0 && i <= sizes[row] - n;
        }

        int howMany() {
            int many = 0;
            for (int row = 0; row < ROWS; row++) {
                if (sizes[row] != MISSING) {
                    many++;
                }
            }
            return many;
        }
    }

    /** THE TAPE, and the reading of a HOUSE from it. */
    private static final class Tape {
        final int[] bytes = new int[MOST_BYTES];
        int length;
        /** Where the next TOKEN begins; behind a FAULT: where that TOKEN begins. */
        int spot;
        /** Of the latest reading; 0: it had no FAULT. Behind one nothing more is read. */
        int faultNumber;
        /** What was read; whole only if there was no FAULT. */
        final House told = new House();

        void append(int letter) {
            if (length < MOST_BYTES) {
                bytes[length] = letter;
                length++;
            }
        }

        void readHouse() {
            told.wipe();
            spot = 0;
            faultNumber = 0;
            readHeir();
            for (int i = 0; i < MOST_BYTES && faultNumber == 0 && next() == 'h'; i++) {
                readHeir();
            }
            readRight();
            for (int i = 0; i < MOST_BYTES && faultNumber == 0 && spot < length; i++) {
                readRight();
            }
        }

        private void readHeir() {
            readLetter(next() == 'h', told.heirs < MOST_HEIRS);
            int bowls = readNumber(0, 60);
            readSign(',');
            int hunger = readNumber(0, MOST_HUNGER);
            readSign(';');
            if (faultNumber == 0) {
                told.addHeir(bowls, hunger);
            }
        }

        private void readRight() {
            int sort = sortOf(next());
            readLetter(sort != 0, told.rights < MOST_RIGHTS);
            int value = readNumber(1, 20);
            readSign(',');
            int due = readNumber(0, 60);
            readSign(',');
            int owner = readNumber(0, told.heirs - 1);
            readSign(';');
            if (faultNumber == 0) {
                told.addRight(sort, value, due, owner);
            }
        }

        /** The KIND that a letter tells; 0: none. */
        private static int sortOf(int letter) {
            switch (letter) {
                case 'n': return NAME;
                case 't': return TWIN;
                case 'f': return FRUIT;
                case 'l': return LOAN;
                case 'p': return PROXY;
                default: return 0;
            }
        }

        private void readLetter(boolean canStand, boolean isRoom) {
            if (faultNumber != 0) {
                return;
            }
            if (!canStand) {
                faultNumber = 1;
            } else if (!isRoom) {
                faultNumber = 3;
            } else {
                spot++;
            }
        }

        private void readSign(int sign) {
            if (faultNumber != 0) {
                return;
            }
            if (next() == sign) {
                spot++;
            } else {
                faultNumber = 1;
            }
        }

        private int readNumber(int least, int most) {
            if (faultNumber != 0) {
                return 0;
            }
            int number = 0;
            int figures = 0;
            // Three figures are enough to know that a run is no NUMBER.
            while (figures < 3 && isFigure(byteAt(spot + figures))) {
                number = number * 10 + byteAt(spot + figures) - '0';
                figures++;
            }
            if (figures == 0 || figures > 2) {
                faultNumber = 1;
            } else if (number < least || number > most) {
                faultNumber = 2;
            } else {
                spot += figures;
            }
            return number;
        }

        private static boolean isFigure(int letter) {
            return letter >= '0' && letter <= '9';
        }

        private int next() {
            return byteAt(spot);
        }

        /** A byte of the tape; beyond its end -1, which is none. */
        private int byteAt(int place) {
            return place >= 0 && place < length && place < MOST_BYTES ? bytes[place] : -1;
        }
    }

    /** A HOUSE; without RIGHTS there is none. */
    private static final class House {
        /** A note has what ACTS can change, and no more: BOWLS, HUNGER, OWNERS, then three numbers. */
        static final int NOTE = 2 * MOST_HEIRS + MOST_RIGHTS + 3;

        int heirs;
        final int[] bowls = new int[MOST_HEIRS];
        final int[] hunger = new int[MOST_HEIRS];
        int rights;
        final int[] sort = new int[MOST_RIGHTS];
        final int[] value = new int[MOST_RIGHTS];
        final int[] due = new int[MOST_RIGHTS];
        final int[] owner = new int[MOST_RIGHTS];
        final int[] first = new int[MOST_RIGHTS];
        int bound;
        int day;
        int sold;

        void wipe() {
            heirs = 0;
            rights = 0;
            bound = 0;
            day = 0;
            sold = 0;
        }

        void become(House other) {
            heirs = other.heirs;
            rights = other.rights;
            bound = other.bound;
            day = other.day;
            sold = other.sold;
            System.arraycopy(other.bowls, 0, bowls, 0, MOST_HEIRS);
            System.arraycopy(other.hunger, 0, hunger, 0, MOST_HEIRS);
            System.arraycopy(other.sort, 0, sort, 0, MOST_RIGHTS);
            System.arraycopy(other.value, 0, value, 0, MOST_RIGHTS);
            System.arraycopy(other.due, 0, due, 0, MOST_RIGHTS);
            System.arraycopy(other.owner, 0, owner, 0, MOST_RIGHTS);
            System.arraycopy(other.first, 0, first, 0, MOST_RIGHTS);
        }

        void writeNote(int[] note) {
            System.arraycopy(bowls, 0, note, 0, MOST_HEIRS);
            System.arraycopy(hunger, 0, note, MOST_HEIRS, MOST_HEIRS);
            System.arraycopy(owner, 0, note, 2 * MOST_HEIRS, MOST_RIGHTS);
            note[NOTE - 3] = bound;
            note[NOTE - 2] = day;
            note[NOTE - 1] = sold;
        }

        void goBackTo(int[] note) {
            System.arraycopy(note, 0, bowls, 0, MOST_HEIRS);
            System.arraycopy(note, MOST_HEIRS, hunger, 0, MOST_HEIRS);
            System.arraycopy(note, 2 * MOST_HEIRS, owner, 0, MOST_RIGHTS);
            bound = note[NOTE - 3];
            day = note[NOTE - 2];
            sold = note[NOTE - 1];
        }

        void addHeir(int itsBowls, int itsHunger) {
            if (heirs < MOST_HEIRS) {
                bowls[heirs] = itsBowls;
                hunger[heirs] = itsHunger;
                heirs++;
            }
        }

        void addRight(int itsSort, int itsValue, int itsDue, int itsOwner) {
            if (rights < MOST_RIGHTS) {
                sort[rights] = itsSort;
                value[rights] = itsValue;
                due[rights] = itsDue;
                owner[rights] = itsOwner;
                first[rights] = itsOwner;
                rights++;
            }
        }

        boolean stands() {
            return rights > 0;
        }

        boolean hasHeir(int heir) {
            return heir >= 0 && heir < heirs;
        }

        boolean hasRight(int right) {
            return right >= 0 && right < rights;
        }

        boolean isBound(int right) {
            return (bound >> right & 1) == 1;
        }

        int rightsOf(int heir) {
            int set = 0;
            for (int right = 0; right < rights; right++) {
                if (owner[right] == heir) {
                    set |= 1 << right;
                }
            }
            return set;
        }

        int rightsInOtherHands() {
            int set = 0;
            for (int right = 0; right < rights; right++) {
                if (owner[right] != first[right]) {
                    set |= 1 << right;
                }
            }
            return set;
        }

        int bowlsOfAll() {
            int all = 0;
            for (int heir = 0; heir < heirs; heir++) {
                all += bowls[heir];
            }
            return all;
        }

        int whoHasMost() {
            int most = 0;
            for (int heir = 1; heir < heirs; heir++) {
                if (bowls[heir] > bowls[most]) {
                    most = heir;
                }
            }
            return most;
        }

        private void comeBowls(int heir, int n) {
            bowls[heir] = Math.min(bowls[heir] + n, MOST_BOWLS);
        }

        void handOver(int heir, int other, int n) {
            bowls[heir] -= n;
            comeBowls(other, n);
        }

        void comeWolves(int heir) {
            bowls[heir] /= 2;
        }

        /** A DAY: the HEIRS (bits) who ate in it. */
        int passDay() {
            for (int right = 0; right < rights; right++) {
                bring(right);
            }
            int fed = 0;
            for (int heir = 0; heir < heirs; heir++) {
                if (bowls[heir] > 0) {
                    bowls[heir]--;
                    hunger[heir] = Math.max(hunger[heir] - 2, 0);
                    fed |= 1 << heir;
                } else {
                    hunger[heir] = Math.min(hunger[heir] + 1, MOST_HUNGER);
                }
            }
            day++;
            return fed;
        }

        private void bring(int right) {
            int half = value[right] / 2;
            switch (sort[right]) {
                case NAME:
                    if (day == due[right]) {
                        comeBowls(owner[right], value[right]);
                    }
                    break;
                case TWIN:
                    if (day == due[right]) {
                        comeBowls(owner[right], half);
                        comeBowls(first[right], half);
                    }
                    break;
                case FRUIT:
                    if (day >= due[right]) {
                        comeBowls(owner[right], value[right]);
                    }
                    break;
                default:
                    bringAsLent(right);
                    break;
            }
        }

        private void bringAsLent(int right) {
            if (day < due[right]) {
                comeBowls(owner[right], value[right]);
            } else if (day == due[right]) {
                owner[right] = sort[right] == LOAN ? first[right] : heirBehind(first[right]);
            }
        }

        private int heirBehind(int heir) {
            return heir + 1 < heirs ? heir + 1 : 0;
        }

        int worthTo(int right, int heir) {
            int far = Math.max(due[right] - day, 0);
            int wait = hunger[heir] * far;
            boolean isPast = day > due[right];
            switch (sort[right]) {
                case NAME: return isPast ? 0 : Math.max(value[right] - wait, 0);
                case TWIN: return isPast ? 0 : Math.max(value[right] / 2 - wait, 0);
                case FRUIT: return Math.max(3 * value[right] - wait, 0);
                case LOAN: return worthAsLent(right, heir, far);
                default: return worthAsLent(right, heir, far) / 2;
            }
        }

        private int worthAsLent(int right, int heir, int far) {
            return Math.max(value[right] * Math.min(far, 9) - hunger[heir], 0);
        }

        int priceOf(int right) {
            return worthTo(right, owner[right]) + 1;
        }

        boolean canBuy(int right, int heir, int n) {
            return heir != owner[right] && !isBound(right) && bowls[heir] >= n
                && n > worthTo(right, owner[right]) && worthTo(right, heir) >= n;
        }

        void trade(int right, int heir, int n) {
            bowls[heir] -= n;
            comeBowls(owner[right], n);
            owner[right] = heir;
            sold++;
        }

        int howManySales() {
            int many = 0;
            for (int right = 0; right < rights; right++) {
                int price = priceOf(right);
                for (int heir = 0; heir < heirs; heir++) {
                    if (canBuy(right, heir, price)) {
                        many++;
                    }
                }
            }
            return many;
        }

        int firstSale() {
            for (int right = 0; right < rights; right++) {
                int buyer = firstBuyer(right);
                if (buyer != NONE) {
                    return 10 * right + buyer;
                }
            }
            return NONE;
        }

        private int firstBuyer(int right) {
            int price = priceOf(right);
            for (int heir = 0; heir < heirs; heir++) {
                if (canBuy(right, heir, price)) {
                    return heir;
                }
            }
            return NONE;
        }

        /** No RIGHT's sale hangs on another one's bond, so just these must be bound. */
        int rightsForSaleOf(int heir) {
            int set = 0;
            for (int right = 0; right < rights; right++) {
                if (owner[right] == heir && firstBuyer(right) != NONE) {
                    set |= 1 << right;
                }
            }
            return set;
        }
    }

    /** What each ACT that can be undone changed, as it was ahead of it, in a ring. */
    private static final class Acts {
        final int[][] notes = new int[MOST_ACTS][House.NOTE];
        int oldest;
        int size;

        void keep(House house) {
            if (size == MOST_ACTS) {
                oldest = (oldest + 1) % MOST_ACTS;
                size--;
            }
            house.writeNote(notes[(oldest + size) % MOST_ACTS]);
            size++;
        }

        void takeBack(House house) {
            if (size > 0) {
                size--;
                house.goBackTo(notes[(oldest + size) % MOST_ACTS]);
            }
        }

        void forget() {
            oldest = 0;
            size = 0;
        }
    }

    /** What is FORETOLD: it comes to pass in a draft, never in the HOUSE itself. */
    private static final class Foresight {
        static final int SUM_OF_CASES = 10;
        static final int DAYS_TO_PEACE = 10;

        final House draft = new House();

        /** The HOUSE behind n DAYS, as the draft tells it until the next look. */
        House look(House now, int n) {
            draft.become(now);
            for (int i = 0; i < n; i++) {
                draft.passDay();
            }
            return draft;
        }

        int mealsOf(House now, int heir, int n) {
            int meals = 0;
            draft.become(now);
            for (int i = 0; i < n; i++) {
                meals += draft.passDay() >> heir & 1;
            }
            return meals;
        }

        int daysToStarving(House now, int heir) {
            draft.become(now);
            for (int n = 0; n <= FAR_SIGHT; n++) {
                if (draft.hunger[heir] == MOST_HUNGER) {
                    return n;
                }
                draft.passDay();
            }
            return NONE;
        }

        int cheapest(House now, int right, int n, int what) {
            draft.become(now);
            int when = 0;
            int least = draft.priceOf(right);
            for (int i = 1; i <= n; i++) {
                draft.passDay();
                int price = draft.priceOf(right);
                if (price < least) {
                    least = price;
                    when = i;
                }
            }
            return what == 0 ? when : least;
        }

        int salesThatFit(House now, int[] told, int i, int what) {
            int many = 0;
            for (int right = 0; right < now.rights; right++) {
                for (int heir = 0; heir < now.heirs; heir++) {
                    if (!fitsSale(now, right, heir, told, i)) {
                        continue;
                    }
                    if (what == 1) {
                        return 10 * right + heir;
                    }
                    many++;
                }
            }
            return what == 0 ? many : NONE;
        }

        private boolean fitsSale(House now, int right, int heir, int[] told, int i) {
            // A buyer's BOWLS are never lost, so what he has left tells the one n there can be.
            int n = now.bowls[heir] - told[i + heir];
            if (n < 1 || !now.canBuy(right, heir, n)) {
                return false;
            }
            draft.become(now);
            draft.trade(right, heir, n);
            return haveAllAsTold(told, i);
        }

        private boolean haveAllAsTold(int[] told, int i) {
            for (int heir = 0; heir < draft.heirs; heir++) {
                if (draft.bowls[heir] != told[i + heir]) {
                    return false;
                }
            }
            return true;
        }

        int kindsThatFit(House now, int right, int[] told, int i, int n) {
            int set = 0;
            for (int kind = NAME; kind <= PROXY; kind++) {
                draft.become(now);
                draft.sort[right] = kind;
                if (hasEachDayAsTold(now.owner[right], told, i, n)) {
                    set |= 1 << kind;
                }
            }
            return set;
        }

        private boolean hasEachDayAsTold(int heir, int[] told, int i, int n) {
            for (int k = 0; k < n; k++) {
                draft.passDay();
                if (draft.bowls[heir] != told[i + k]) {
                    return false;
                }
            }
            return true;
        }

        int leastGift(House now, int heir, int other) {
            int most = Math.min(now.bowls[heir], 60);
            for (int n = 0; n <= most; n++) {
                draft.become(now);
                draft.handOver(heir, other, n);
                for (int i = 0; i < DAYS_TO_PEACE; i++) {
                    draft.passDay();
                }
                if (draft.hunger[other] == 0) {
                    return n;
                }
            }
            return NONE;
        }

        /** Of allCases(): in how many k HEIRS, or more, eat. */
        long casesInWhichEnoughEat(House now, int k, int p) {
            long cases = 0;
            for (int visited = 0; visited < 1 << now.heirs; visited++) {
                draft.become(now);
                long weight = 1;
                for (int heir = 0; heir < now.heirs; heir++) {
                    boolean isVisited = (visited >> heir & 1) == 1;
                    weight *= isVisited ? p : SUM_OF_CASES - p;
                    if (isVisited) {
                        draft.comeWolves(heir);
                    }
                }
                if (Integer.bitCount(draft.passDay()) >= k) {
                    cases += weight;
                }
            }
            return cases;
        }

        static long allCases(int heirs) {
            long cases = 1;
            for (int heir = 0; heir < heirs; heir++) {
                cases *= SUM_OF_CASES;
            }
            return cases;
        }

        /** The draft becomes the HOUSE behind n drawn DAYS: how many were sold in them. */
        int drawYears(House now, int n, int seed) {
            draft.become(now);
            if (!draft.stands() || draft.heirs == 0) {
                return 0;
            }
            long x = seed;
            for (int i = 0; i < n; i++) {
                x = x * 16807 % 2147483647;
                int right = (int) (x % draft.rights);
                int heir = (int) (x % draft.heirs);
                int price = draft.priceOf(right);
                if (draft.canBuy(right, heir, price)) {
                    draft.trade(right, heir, price);
                }
                draft.passDay();
            }
            return draft.sold - now.sold;
        }
    }

    /** BARTER: rows of sales are tried out, each of them taken back again. */
    private static final class Barter {
        static final int MOST_SALES = 3;

        final House house = new House();
        /** By RIGHTS and HEIRS. Sales change no HUNGER and no DAY, so it holds for the whole row. */
        final int[][] worths = new int[MOST_RIGHTS][MOST_HEIRS];
        int greatest;
        int firstSale;

        void search(House now, int n) {
            house.become(now);
            for (int right = 0; right < house.rights; right++) {
                for (int heir = 0; heir < house.heirs; heir++) {
                    worths[right][heir] = house.worthTo(right, heir);
                }
            }
            greatest = greatestSum(n);
        }

        /** Of rows of so many sales; NONE: there is no such row. The first sale is kept, too. */
        private int greatestSum(int sales) {
            int sum = NONE;
            int sale = NONE;
            for (int right = 0; right < house.rights; right++) {
                for (int heir = 0; heir < house.heirs; heir++) {
                    int each = sumBeginningWith(right, heir, sales);
                    if (each > sum) {
                        sum = each;
                        sale = 10 * right + heir;
                    }
                }
            }
            firstSale = sale;
            return sum;
        }

        private int sumBeginningWith(int right, int heir, int sales) {
            int seller = house.owner[right];
            int price = worths[right][seller] + 1;
            if (heir == seller || house.isBound(right)
                || house.bowls[heir] < price || worths[right][heir] < price) {
                return NONE;
            }
            int surplus = worths[right][heir] - worths[right][seller];
            if (sales <= 1) {
                return surplus;
            }
            int sellerHad = house.bowls[seller];
            int buyerHad = house.bowls[heir];
            house.trade(right, heir, price);
            int rest = greatestSum(sales - 1);
            house.owner[right] = seller;
            house.bowls[seller] = sellerHad;
            house.bowls[heir] = buyerHad;
            return rest == NONE ? NONE : surplus + rest;
        }
    }

    /** ASKS, and THE TRACE that they leave. */
    private static final class Asks {
        static final int MOST_NUMBERS = 16;
        static final int DEEPEST = 16;

        final int[] numbers = new int[MOST_NUMBERS];
        int left;
        private int number;
        private int value;
        private int owner;
        private int sizeBody;
        private int markBody;

        int begin(House house, int one, int what) {
            int kind = isWithin(house.sort[one], 0, PROXY) ? house.sort[one] : 0;
            number = one;
            value = house.value[one];
            owner = house.owner[one];
            sizeBody = SIZE_BODY[kind];
            markBody = MARK_BODY[kind];
            left = 0;
            return answerOf(what == 0 ? sizeBody : markBody, 0);
        }

        private int answerOf(int body, int depth) {
            if (depth > DEEPEST) {
                return 0;
            }
            if (left < MOST_NUMBERS) {
                numbers[left] = body;
                left++;
            }
            int below = depth + 1;
            switch (body) {
                case 10: return value;
                case 11: return answerOf(10, below) + answerOf(markBody, below);
                case 12: return 0 - answerOf(11, below);
                case 13: return answerOf(10, below) - 100;
                case 14: return 2 * answerOf(13, below);
                case 20: return number;
                case 21: return answerOf(20, below) + owner;
                case 22: return answerOf(21, below) - 1000;
                case 23: return answerOf(20, below) - answerOf(sizeBody, below);
                case 24: return 2 * answerOf(21, below);
                default: return 0;
            }
        }
    }
}
