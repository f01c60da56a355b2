import java.math.BigInteger;
import java.util.ArrayDeque;
import java.util.ArrayList;
import java.util.Collections;
import java.util.Deque;
import java.util.List;

/**
 * The document once more, as plainly as the Java library lets it be said and
 * apart from the class: ModelTest holds the one against the other.
 */
final class SoupModel {
    static final int NONE = -1000000, BAD = -1000001, STATE = -1000002, FULL = -1000003;

    private static final class Heir {
        int bowls, hunger;

        Heir(int bowls, int hunger) {
            this.bowls = bowls;
            this.hunger = hunger;
        }

        void get(int n) {
            bowls += n;
            if (bowls > 99) {
                bowls = 99;
            }
        }
    }

    /** ASKS are Java's own overriding here. */
    private static class Right {
        int number, value, due, owner, first;
        boolean bound;
        List<Integer> trace = new ArrayList<>();

        int size() {
            trace.add(10);
            return value;
        }

        int mark() {
            trace.add(20);
            return number;
        }

        void day(State s) {
        }

        int worth(State s, Heir to) {
            return 0;
        }

        final int far(State s) {
            return due > s.day ? due - s.day : 0;
        }
    }

    private static class Name extends Right {
        @Override int size() {
            trace.add(11);
            int ten = super.size();
            return ten + mark();
        }

        @Override int mark() {
            trace.add(21);
            return super.mark() + owner;
        }

        @Override void day(State s) {
            if (s.day == due) {
                s.heirs.get(owner).get(value);
            }
        }

        @Override int worth(State s, Heir to) {
            int w = value - to.hunger * far(s);
            return s.day > due || w < 0 ? 0 : w;
        }
    }

    private static final class Twin extends Name {
        @Override int size() {
            trace.add(12);
            return -super.size();
        }

        @Override int mark() {
            trace.add(24);
            return super.mark() * 2;
        }

        @Override void day(State s) {
            if (s.day == due) {
                s.heirs.get(owner).get(value / 2);
                s.heirs.get(first).get(value / 2);
            }
        }

        @Override int worth(State s, Heir to) {
            int w = value / 2 - to.hunger * far(s);
            return s.day > due || w < 0 ? 0 : w;
        }
    }

    private static final class Fruit extends Name {
        @Override int mark() {
            trace.add(22);
            return super.mark() - 1000;
        }

        @Override void day(State s) {
            if (s.day >= due) {
                s.heirs.get(owner).get(value);
            }
        }

        @Override int worth(State s, Heir to) {
            int w = value * 3 - to.hunger * far(s);
            return w < 0 ? 0 : w;
        }
    }

    private static class Loan extends Right {
        @Override int size() {
            trace.add(13);
            return super.size() - 100;
        }

        @Override int mark() {
            trace.add(23);
            int twenty = super.mark();
            return twenty - size();
        }

        int goesTo(State s) {
            return first;
        }

        @Override void day(State s) {
            if (s.day < due) {
                s.heirs.get(owner).get(value);
            }
            if (s.day == due) {
                owner = goesTo(s);
            }
        }

        @Override int worth(State s, Heir to) {
            int far = far(s) > 9 ? 9 : far(s);
            int w = value * far - to.hunger;
            return w < 0 ? 0 : w;
        }
    }

    private static final class Proxy extends Loan {
        @Override int size() {
            trace.add(14);
            return super.size() * 2;
        }

        @Override int goesTo(State s) {
            return (first + 1) % s.heirs.size();
        }

        @Override int worth(State s, Heir to) {
            return super.worth(s, to) / 2;
        }
    }

    private static int kindOf(Right r) {
        return r instanceof Twin ? 2 : r instanceof Fruit ? 3 : r instanceof Name ? 1
            : r instanceof Proxy ? 5 : 4;
    }

    private static Right ofKind(int kind) {
        return kind == 1 ? new Name() : kind == 2 ? new Twin() : kind == 3 ? new Fruit()
            : kind == 4 ? new Loan() : new Proxy();
    }

    private static final class State {
        List<Heir> heirs = new ArrayList<>();
        List<Right> rights = new ArrayList<>();
        int day, sold;

        void add(int kind, Right like) {
            Right r = ofKind(kind);
            r.number = rights.size();
            r.value = like.value;
            r.due = like.due;
            r.owner = like.owner;
            r.first = like.first;
            r.bound = like.bound;
            rights.add(r);
        }

        State twin() {
            State s = new State();
            for (Heir h : heirs) {
                s.heirs.add(new Heir(h.bowls, h.hunger));
            }
            for (Right r : rights) {
                s.add(kindOf(r), r);
            }
            s.day = day;
            s.sold = sold;
            return s;
        }

        List<Integer> oneDay() {
            List<Integer> fed = new ArrayList<>();
            for (Right r : rights) {
                r.day(this);
            }
            for (int i = 0; i < heirs.size(); i++) {
                Heir h = heirs.get(i);
                if (h.bowls >= 1) {
                    h.bowls -= 1;
                    h.hunger = h.hunger < 2 ? 0 : h.hunger - 2;
                    fed.add(i);
                } else if (h.hunger < 20) {
                    h.hunger += 1;
                }
            }
            day += 1;
            return fed;
        }

        State behind(int n) {
            State s = twin();
            for (int i = 0; i < n; i++) {
                s.oneDay();
            }
            return s;
        }

        int worth(int r, int h) {
            return rights.get(r).worth(this, heirs.get(h));
        }

        int price(int r) {
            return worth(r, rights.get(r).owner) + 1;
        }

        boolean can(int r, int h, int n) {
            Right right = rights.get(r);
            if (right.bound || right.owner == h) {
                return false;
            }
            return heirs.get(h).bowls >= n && n > worth(r, right.owner) && n <= worth(r, h);
        }

        void sale(int r, int h, int n) {
            Right right = rights.get(r);
            heirs.get(h).bowls -= n;
            heirs.get(right.owner).get(n);
            right.owner = h;
            sold++;
        }

        int bowls() {
            return heirs.stream().mapToInt(h -> h.bowls).sum();
        }
    }

    private State house;
    private final Deque<State> acts = new ArrayDeque<>();
    private final State[] images = new State[2];
    private final StringBuilder tape = new StringBuilder();
    private final int[][] items = new int[8][];
    private final int[] lanes = new int[8];
    private int fault, finding;
    private List<Integer> trace = new ArrayList<>();

    private static boolean in(int v, int least, int most) {
        return least <= v && v <= most;
    }

    private boolean noHeir(int h) {
        return house == null || !in(h, 0, house.heirs.size() - 1);
    }

    private boolean noRight(int r) {
        return house == null || !in(r, 0, house.rights.size() - 1);
    }

    private int find(int number) {
        finding = number;
        return -1000010 - number;
    }

    private int well(int answer) {
        finding = 0;
        return answer;
    }

    private void act() {
        acts.addLast(house.twin());
        if (acts.size() > 24) {
            acts.removeFirst();
        }
    }

    int row(int row, int lane, int n) {
        if (!in(row, 0, 7) || !in(lane, 0, 2) || n > 40) {
            return BAD;
        }
        if (n < 0) {
            return find(4);
        }
        lanes[row] = lane;
        items[row] = new int[n];
        return well(n);
    }

    int set(int row, int i, int v) {
        if (!in(row, 0, 7)) {
            return BAD;
        }
        if (items[row] == null) {
            return find(1);
        }
        if (!in(i, 0, items[row].length - 1)) {
            return find(2);
        }
        int drop = lanes[row] == 0 ? 24 : lanes[row] == 1 ? 16 : 0;
        items[row][i] = v << drop >> drop;
        return well(items[row][i]);
    }

    int copy(int a, int i, int b, int j, int n) {
        if (!in(a, 0, 7) || !in(b, 0, 7)) {
            return BAD;
        }
        if (items[a] == null || items[b] == null) {
            return find(1);
        }
        if (lanes[a] != lanes[b]) {
            return find(5);
        }
        if (i < 0 || j < 0 || n < 0 || (long) i + n > items[a].length || (long) j + n > items[b].length) {
            return find(2);
        }
        int[] was = items[a].clone();
        for (int k = 0; k < n; k++) {
            items[b][j + k] = was[i + k];
        }
        return well(n);
    }

    int drop(int row) {
        if (!in(row, 0, 7)) {
            return BAD;
        }
        if (items[row] == null) {
            return find(1);
        }
        int had = items[row].length;
        items[row] = null;
        return well(had);
    }

    int feed(int letter) {
        if (!in(letter, 0, 255)) {
            return BAD;
        }
        if (tape.length() == 100) {
            return FULL;
        }
        tape.append((char) letter);
        return tape.length();
    }

    /** A token: its text, and where it begins; an empty text is the end. */
    private record Token(String text, int at) {
    }

    private static List<Token> tokens(String text) {
        List<Token> all = new ArrayList<>();
        int i = 0;
        while (i < text.length()) {
            int j = i + 1;
            if (Character.isDigit(text.charAt(i)) && text.charAt(i) < 128) {
                while (j < text.length() && text.charAt(j) >= '0' && text.charAt(j) <= '9') {
                    j++;
                }
            }
            all.add(new Token(text.substring(i, j), i));
            i = j;
        }
        all.add(new Token("", text.length()));
        return all;
    }

    int house() {
        String text = tape.toString();
        tape.setLength(0);
        State s = new State();
        // what may stand: the slots of "h#,#;" or "s#,#,#;" by a place within
        String form = "";
        int within = 0;
        int[] numbers = new int[3];
        int told = 0;
        int kind = 0;
        for (Token t : tokens(text)) {
            int wrong = 0;
            boolean isNumber = t.text.matches("[0-9]{1,2}");
            if (within == form.length()) {
                boolean mayHeir = s.rights.isEmpty();
                boolean mayRight = !s.heirs.isEmpty();
                boolean mayEnd = !s.rights.isEmpty();
                if (t.text.isEmpty()) {
                    if (mayEnd) {
                        break;
                    }
                    wrong = 1;
                } else if (t.text.equals("h") && mayHeir) {
                    if (s.heirs.size() == 5) {
                        wrong = 3;
                    }
                    form = "h#,#;";
                } else if (t.text.matches("[ntflp]") && mayRight) {
                    if (s.rights.size() == 7) {
                        wrong = 3;
                    }
                    form = "s#,#,#;";
                    kind = " ntflp".indexOf(t.text);
                } else {
                    wrong = 1;
                }
                within = 1;
                told = 0;
            } else {
                char want = form.charAt(within);
                if (want == '#') {
                    if (!isNumber) {
                        wrong = 1;
                    } else {
                        numbers[told] = Integer.parseInt(t.text);
                        if (!numberAsTold(s, form, told, numbers[told])) {
                            wrong = 2;
                        }
                        told++;
                    }
                } else if (!t.text.equals("" + want)) {
                    wrong = 1;
                }
                within++;
            }
            if (wrong != 0) {
                fault = wrong;
                return -1000100 - t.at;
            }
            if (within == form.length()) {
                if (form.charAt(0) == 'h') {
                    s.heirs.add(new Heir(numbers[0], numbers[1]));
                } else {
                    Right like = new Right();
                    like.value = numbers[0];
                    like.due = numbers[1];
                    like.owner = numbers[2];
                    like.first = numbers[2];
                    s.add(kind, like);
                }
            }
        }
        house = s;
        acts.clear();
        return s.rights.size();
    }

    private static boolean numberAsTold(State s, String form, int which, int v) {
        if (form.charAt(0) == 'h') {
            return which == 0 ? v <= 60 : v <= 20;
        }
        return which == 0 ? in(v, 1, 20) : which == 1 ? v <= 60 : v < s.heirs.size();
    }

    int fault() {
        return fault;
    }

    int undo() {
        if (acts.isEmpty()) {
            return STATE;
        }
        house = acts.removeLast();
        return acts.size();
    }

    int days(int n) {
        if (house == null) {
            return STATE;
        }
        if (!in(n, 1, 24)) {
            return BAD;
        }
        if (house.day + n > 999) {
            return FULL;
        }
        for (int i = 0; i < n; i++) {
            act();
            house.oneDay();
        }
        return house.day;
    }

    int sell(int right, int heir, int n) {
        if (noRight(right) || noHeir(heir) || !in(n, 1, 99) || house.rights.get(right).owner == heir) {
            return BAD;
        }
        if (!house.can(right, heir, n)) {
            return STATE;
        }
        act();
        int seller = house.rights.get(right).owner;
        house.sale(right, heir, n);
        return house.heirs.get(seller).bowls;
    }

    int bind(int right, int on) {
        if (noRight(right) || !in(on, 0, 1)) {
            return BAD;
        }
        if (house.rights.get(right).bound == (on == 1)) {
            return STATE;
        }
        act();
        house.rights.get(right).bound = on == 1;
        int bits = 0;
        for (Right r : house.rights) {
            bits += r.bound ? 1 << r.number : 0;
        }
        return bits;
    }

    int give(int heir, int other, int n) {
        if (noHeir(heir) || noHeir(other) || heir == other || !in(n, 1, 60)) {
            return BAD;
        }
        if (house.heirs.get(heir).bowls < n) {
            return STATE;
        }
        act();
        house.heirs.get(heir).bowls -= n;
        house.heirs.get(other).get(n);
        return house.heirs.get(other).bowls;
    }

    int wolves(int heir) {
        if (noHeir(heir)) {
            return BAD;
        }
        act();
        house.heirs.get(heir).bowls /= 2;
        return house.heirs.get(heir).bowls;
    }

    int right(int right, int what) {
        if (noRight(right) || !in(what, 0, 4)) {
            return BAD;
        }
        Right r = house.rights.get(right);
        return new int[] {r.value, r.due, r.owner, r.first, r.bound ? 1 : 0}[what];
    }

    int heir(int heir, int what) {
        if (noHeir(heir) || !in(what, 0, 2)) {
            return BAD;
        }
        int bits = 0;
        for (Right r : house.rights) {
            bits += r.owner == heir ? 1 << r.number : 0;
        }
        return new int[] {house.heirs.get(heir).bowls, house.heirs.get(heir).hunger, bits}[what];
    }

    int worth(int right, int heir) {
        return noRight(right) || noHeir(heir) ? BAD : house.worth(right, heir);
    }

    int ahead(int heir, int n, int what) {
        if (noHeir(heir) || !in(n, 0, 60) || !in(what, 0, 1)) {
            return BAD;
        }
        Heir h = house.behind(n).heirs.get(heir);
        return what == 0 ? h.bowls : h.hunger;
    }

    int whose(int right, int n) {
        return noRight(right) || !in(n, 0, 60) ? BAD : house.behind(n).rights.get(right).owner;
    }

    int eats(int heir, int n) {
        if (noHeir(heir) || !in(n, 0, 60)) {
            return BAD;
        }
        int often = 0;
        for (int i = 0; i < n; i++) {
            often += house.behind(i).oneDay().contains(heir) ? 1 : 0;
        }
        return often;
    }

    int starves(int heir) {
        if (noHeir(heir)) {
            return BAD;
        }
        for (int n = 0; n <= 60; n++) {
            if (house.behind(n).heirs.get(heir).hunger == 20) {
                return n;
            }
        }
        return NONE;
    }

    int richest(int n) {
        if (house == null) {
            return STATE;
        }
        if (!in(n, 0, 60)) {
            return BAD;
        }
        List<Heir> then = house.behind(n).heirs;
        int most = then.stream().mapToInt(h -> h.bowls).max().orElse(0);
        for (int h = 0; h < then.size(); h++) {
            if (then.get(h).bowls == most) {
                return h;
            }
        }
        return BAD;
    }

    int price(int right) {
        return noRight(right) ? BAD : house.price(right);
    }

    int cheap(int right, int n, int what) {
        if (noRight(right) || !in(n, 0, 30) || !in(what, 0, 1)) {
            return BAD;
        }
        List<Integer> prices = new ArrayList<>();
        for (int i = 0; i <= n; i++) {
            prices.add(house.behind(i).price(right));
        }
        int least = Collections.min(prices);
        return what == 0 ? prices.indexOf(least) : least;
    }

    private static List<int[]> salesOf(State s) {
        List<int[]> all = new ArrayList<>();
        for (int r = 0; r < s.rights.size(); r++) {
            for (int h = 0; h < s.heirs.size(); h++) {
                if (s.can(r, h, s.price(r))) {
                    all.add(new int[] {r, h});
                }
            }
        }
        return all;
    }

    int sales(int what) {
        if (house == null) {
            return STATE;
        }
        if (!in(what, 0, 1)) {
            return BAD;
        }
        List<int[]> all = salesOf(house);
        return what == 0 ? all.size() : all.isEmpty() ? NONE : all.get(0)[0] * 10 + all.get(0)[1];
    }

    private static int surplusOf(State s, int r, int h) {
        return 1000 + s.worth(r, h) - s.worth(r, s.rights.get(r).owner);
    }

    int surplus(int right, int heir) {
        if (noRight(right) || noHeir(heir) || house.rights.get(right).owner == heir) {
            return BAD;
        }
        return surplusOf(house, right, heir);
    }

    int bonds(int heir, int what) {
        if (noHeir(heir) || !in(what, 0, 1)) {
            return BAD;
        }
        int his = heir(heir, 2);
        for (int size = 0; size <= 7; size++) {
            for (int set = 0; set < 128; set++) {
                if (Integer.bitCount(set) != size || (set & his) != set) {
                    continue;
                }
                State s = house.twin();
                for (Right r : s.rights) {
                    r.bound |= (set >> r.number & 1) == 1;
                }
                if (salesOf(s).stream().noneMatch(sale -> s.rights.get(sale[0]).owner == heir)) {
                    return what == 0 ? size : set;
                }
            }
        }
        return NONE;
    }

    private int bestSum, bestFirst;

    private void rowsOfSales(State s, int left, int sum, int first) {
        if (left == 0) {
            if (bestSum == NONE || sum > bestSum) {
                bestSum = sum;
                bestFirst = first;
            }
            return;
        }
        for (int[] sale : salesOf(s)) {
            State then = s.twin();
            int more = surplusOf(s, sale[0], sale[1]) - 1000;
            then.sale(sale[0], sale[1], s.price(sale[0]));
            rowsOfSales(then, left - 1, sum + more, first == NONE ? sale[0] * 10 + sale[1] : first);
        }
    }

    int barter(int n, int what) {
        if (house == null) {
            return STATE;
        }
        if (!in(n, 1, 3) || !in(what, 0, 1)) {
            return BAD;
        }
        bestSum = NONE;
        bestFirst = NONE;
        rowsOfSales(house, n, 0, NONE);
        return what == 0 ? bestSum : bestFirst;
    }

    int whatSold(int row, int i, int what) {
        if (house == null) {
            return STATE;
        }
        if (!in(row, 0, 7) || !in(what, 0, 1)) {
            return BAD;
        }
        if (items[row] == null) {
            return find(1);
        }
        if (i < 0 || (long) i + house.heirs.size() > items[row].length) {
            return find(2);
        }
        List<Integer> ways = new ArrayList<>();
        for (int r = 0; r < house.rights.size(); r++) {
            for (int h = 0; h < house.heirs.size(); h++) {
                for (int n = 1; n <= 99; n++) {
                    if (house.can(r, h, n)) {
                        State s = house.twin();
                        s.sale(r, h, n);
                        boolean so = true;
                        for (int k = 0; k < s.heirs.size(); k++) {
                            so &= s.heirs.get(k).bowls == items[row][i + k];
                        }
                        if (so) {
                            ways.add(r * 10 + h);
                        }
                    }
                }
            }
        }
        return well(what == 0 ? ways.size() : ways.isEmpty() ? NONE : ways.get(0));
    }

    int who(int right, int row, int i, int n) {
        if (noRight(right) || !in(row, 0, 7) || !in(n, 1, 12)) {
            return BAD;
        }
        if (items[row] == null) {
            return find(1);
        }
        if (i < 0 || (long) i + n > items[row].length) {
            return find(2);
        }
        int owner = house.rights.get(right).owner;
        int bits = 0;
        for (int kind = 1; kind <= 5; kind++) {
            State s = new State();
            for (Heir h : house.heirs) {
                s.heirs.add(new Heir(h.bowls, h.hunger));
            }
            for (Right r : house.rights) {
                s.add(r.number == right ? kind : kindOf(r), r);
            }
            s.day = house.day;
            boolean so = true;
            for (int k = 1; k <= n; k++) {
                so &= s.behind(k).heirs.get(owner).bowls == items[row][i + k - 1];
            }
            bits += so ? 1 << kind : 0;
        }
        return well(bits);
    }

    int claims() {
        if (house == null) {
            return STATE;
        }
        int bits = 0;
        for (Right r : house.rights) {
            bits += r.owner == r.first ? 0 : 1 << r.number;
        }
        return bits;
    }

    int peace(int heir, int other) {
        if (noHeir(heir) || noHeir(other) || heir == other) {
            return BAD;
        }
        for (int n = 0; n <= 60; n++) {
            State s = house.twin();
            if (s.heirs.get(heir).bowls < n) {
                break;
            }
            s.heirs.get(heir).bowls -= n;
            s.heirs.get(other).get(n);
            if (s.behind(10).heirs.get(other).hunger == 0) {
                return n;
            }
        }
        return NONE;
    }

    private static BigInteger likely(State s, int heir, int k, int p) {
        if (heir == s.heirs.size()) {
            return s.twin().oneDay().size() >= k ? BigInteger.ONE : BigInteger.ZERO;
        }
        State bitten = s.twin();
        bitten.heirs.get(heir).bowls /= 2;
        return likely(bitten, heir + 1, k, p).multiply(BigInteger.valueOf(p))
            .add(likely(s, heir + 1, k, p).multiply(BigInteger.valueOf(10 - p)));
    }

    long prowl(int k, int p, int what) {
        if (house == null) {
            return STATE;
        }
        if (!in(k, 0, 5) || !in(p, 0, 10) || !in(what, 0, 1)) {
            return BAD;
        }
        BigInteger above = likely(house, 0, k, p);
        BigInteger below = BigInteger.TEN.pow(house.heirs.size());
        BigInteger shared = above.gcd(below);
        return (what == 0 ? above : below).divide(shared).longValueExact();
    }

    int drawn(int n, int seed, int what) {
        if (house == null) {
            return STATE;
        }
        if (!in(n, 0, 60) || !in(seed, 1, 999999) || !in(what, 0, 1)) {
            return BAD;
        }
        State s = house.twin();
        BigInteger x = BigInteger.valueOf(seed);
        int sold = 0;
        for (int i = 0; i < n; i++) {
            x = x.multiply(BigInteger.valueOf(16807)).mod(BigInteger.valueOf(2147483647));
            int r = x.mod(BigInteger.valueOf(s.rights.size())).intValue();
            int h = x.mod(BigInteger.valueOf(s.heirs.size())).intValue();
            if (s.can(r, h, s.price(r))) {
                s.sale(r, h, s.price(r));
                sold++;
            }
            s.oneDay();
        }
        return what == 0 ? sold : s.bowls();
    }

    int image(int k) {
        if (!in(k, 0, 1)) {
            return BAD;
        }
        if (house == null) {
            return STATE;
        }
        images[k] = house.twin();
        return 1;
    }

    int restore(int k) {
        if (!in(k, 0, 1)) {
            return BAD;
        }
        if (images[k] == null) {
            return STATE;
        }
        house = images[k].twin();
        acts.clear();
        return 1;
    }

    int kind(int one) {
        return noRight(one) ? BAD : kindOf(house.rights.get(one));
    }

    int as(int one, int kind) {
        if (noRight(one) || !in(kind, 0, 5)) {
            return BAD;
        }
        Right r = house.rights.get(one);
        Class<?>[] kinds = {Right.class, Name.class, Twin.class, Fruit.class, Loan.class, Proxy.class};
        return kinds[kind].isInstance(r) ? well(one) : find(3);
    }

    int ask(int one, int what) {
        if (noRight(one) || !in(what, 0, 1)) {
            return BAD;
        }
        Right r = house.rights.get(one);
        r.trace = new ArrayList<>();
        int answer = what == 0 ? r.size() : r.mark();
        trace = r.trace;
        return answer;
    }

    int trace(int i) {
        return in(i, 0, Math.min(trace.size(), 16) - 1) ? trace.get(i) : NONE;
    }

    int count(int what) {
        int rows = 0;
        for (int[] row : items) {
            rows += row == null ? 0 : 1;
        }
        switch (what) {
            case 0: return rows;
            case 1: return house == null ? 0 : house.heirs.size();
            case 2: return house == null ? 0 : house.rights.size();
            case 3: return house == null ? 0 : house.day;
            case 4: return house == null ? 0 : house.bowls();
            case 5: return house == null ? 0 : house.sold;
            case 6: return acts.size();
            case 7: return tape.length();
            default: return BAD;
        }
    }

    int status() {
        return finding;
    }
}
