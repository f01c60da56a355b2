import java.util.Random;

/** Many drawn runs of calls: the class and the model must answer alike. */
public final class ModelTest {
    private static final Check CHECK = new Check();
    private static final int[] ODD = {Integer.MIN_VALUE, -1, 99, 100, 1000, Integer.MAX_VALUE};

    private final Random random;
    private final SoupRights x = new SoupRights();
    private final SoupModel m = new SoupModel();
    private int calls;

    private ModelTest(long seed) {
        random = new Random(seed);
    }

    public static void main(String[] args) {
        int runs = args.length > 0 ? Integer.parseInt(args[0]) : 1500;
        for (int run = 0; run < runs && CHECK.wrong() < 20; run++) {
            new ModelTest(run).oneRun(run);
        }
        CHECK.end("ModelTest");
    }

    private void due(String call, long got, long want) {
        calls++;
        CHECK.due(call, got, want);
    }

    private void oneRun(int run) {
        while (calls < 500 && CHECK.wrong() < 20) {
            if (random.nextInt(40) == 0 || x.count(2) == 0 && random.nextInt(4) == 0) {
                tell(run);
            } else {
                oneCall(run);
            }
        }
    }

    /** A text, now and then with a byte that is wrong, missing or too many. */
    private void tell(int run) {
        StringBuilder text = new StringBuilder();
        int heirs = 1 + random.nextInt(random.nextInt(6) == 0 ? 6 : 5);
        for (int i = 0; i < heirs; i++) {
            text.append('h').append(random.nextInt(random.nextInt(60) == 0 ? 64 : 61)).append(',')
                .append(random.nextInt(random.nextBoolean() ? 4 : 21)).append(';');
        }
        int rights = 1 + random.nextInt(random.nextInt(6) == 0 ? 8 : 7);
        for (int i = 0; i < rights; i++) {
            text.append("ntflp".charAt(random.nextInt(5))).append(1 + random.nextInt(20)).append(',')
                .append(random.nextInt(random.nextInt(3) == 0 ? 61 : 12)).append(',')
                .append(random.nextInt(random.nextInt(60) == 0 ? 6 : Math.min(heirs, 5))).append(';');
        }
        int spoil = random.nextInt(8);
        int at = random.nextInt(text.length());
        if (spoil == 0) {
            text.deleteCharAt(at);
        } else if (spoil == 1) {
            text.insert(at, "hntflpq09,; A".charAt(random.nextInt(13)));
        } else if (spoil == 2) {
            text.setCharAt(at, (char) random.nextInt(256));
        } else if (spoil == 3) {
            text.setLength(at);
        }
        for (int i = 0; i < text.length(); i++) {
            int letter = text.charAt(i);
            due(run + ": feed(" + letter + ")", x.feed(letter), m.feed(letter));
        }
        due(run + ": house() of " + text, x.house(), m.house());
        due(run + ": fault()", x.fault(), m.fault());
    }

    private int below(int n) {
        if (random.nextInt(60) == 0) {
            return ODD[random.nextInt(ODD.length)];
        }
        return random.nextInt(random.nextInt(20) == 0 ? n + 1 : n);
    }

    private int right() {
        return below(x.count(2) == 0 ? 7 : x.count(2));
    }

    private int heir() {
        return below(x.count(1) == 0 ? 5 : x.count(1));
    }

    private void oneCall(int run) {
        int which = random.nextInt(46);
        if (which < 14) {
            doneCall(run, which);
        } else if (which < 34) {
            foretoldCall(run, which);
        } else {
            askedCall(run, which);
        }
        due(run + ": status() behind " + which, x.status(), m.status());
    }

    private void doneCall(int run, int which) {
        int r = right();
        int h = heir();
        switch (which) {
            case 0: {
                int row = below(8);
                int lane = below(3);
                int n = random.nextInt(12) == 0 ? -1 - random.nextInt(3) : below(41);
                due(run + ": row(" + row + ", " + lane + ", " + n + ")", x.row(row, lane, n), m.row(row, lane, n));
                break;
            }
            case 1: {
                int row = below(8);
                int i = below(12);
                int v = random.nextInt(3) == 0 ? random.nextInt() : random.nextInt(100);
                due(run + ": set(" + row + ", " + i + ", " + v + ")", x.set(row, i, v), m.set(row, i, v));
                break;
            }
            case 2: {
                int a = below(8);
                int b = below(8);
                int i = below(10);
                int j = below(10);
                int n = below(8);
                due(run + ": copy(" + a + ", " + i + ", " + b + ", " + j + ", " + n + ")",
                    x.copy(a, i, b, j, n), m.copy(a, i, b, j, n));
                break;
            }
            case 3: {
                int row = below(8);
                if (random.nextInt(4) == 0) {
                    due(run + ": drop(" + row + ")", x.drop(row), m.drop(row));
                }
                break;
            }
            case 4:
                due(run + ": undo()", x.undo(), m.undo());
                break;
            case 5: {
                int n = random.nextInt(6) == 0 ? below(25) : 1 + random.nextInt(2);
                due(run + ": days(" + n + ")", x.days(n), m.days(n));
                break;
            }
            case 6:
            case 7: {
                int n = random.nextInt(3) == 0 ? below(100) : Math.max(1, x.price(r));
                due(run + ": sell(" + r + ", " + h + ", " + n + ")", x.sell(r, h, n), m.sell(r, h, n));
                break;
            }
            case 8: {
                int first = x.sales(1);
                if (first >= 0) {
                    int n = x.price(first / 10) + random.nextInt(3);
                    due(run + ": sell of " + first + " for " + n,
                        x.sell(first / 10, first % 10, n), m.sell(first / 10, first % 10, n));
                }
                break;
            }
            case 9: {
                int on = below(2);
                due(run + ": bind(" + r + ", " + on + ")", x.bind(r, on), m.bind(r, on));
                break;
            }
            case 10: {
                int other = heir();
                int n = below(random.nextBoolean() ? 61 : 9);
                due(run + ": give(" + h + ", " + other + ", " + n + ")", x.give(h, other, n), m.give(h, other, n));
                break;
            }
            case 11:
                due(run + ": wolves(" + h + ")", x.wolves(h), m.wolves(h));
                break;
            case 12: {
                int what = below(5);
                due(run + ": right(" + r + ", " + what + ")", x.right(r, what), m.right(r, what));
                break;
            }
            default: {
                int what = below(3);
                due(run + ": heir(" + h + ", " + what + ")", x.heir(h, what), m.heir(h, what));
                break;
            }
        }
    }

    private void foretoldCall(int run, int which) {
        int r = right();
        int h = heir();
        int n = below(61);
        int what = below(2);
        switch (which) {
            case 14:
                due(run + ": worth(" + r + ", " + h + ")", x.worth(r, h), m.worth(r, h));
                break;
            case 15:
                due(run + ": ahead(" + h + ", " + n + ", " + what + ")", x.ahead(h, n, what), m.ahead(h, n, what));
                break;
            case 16:
                due(run + ": whose(" + r + ", " + n + ")", x.whose(r, n), m.whose(r, n));
                break;
            case 17:
                due(run + ": eats(" + h + ", " + n + ")", x.eats(h, n), m.eats(h, n));
                break;
            case 18:
                due(run + ": starves(" + h + ")", x.starves(h), m.starves(h));
                break;
            case 19:
                due(run + ": richest(" + n + ")", x.richest(n), m.richest(n));
                break;
            case 20:
                due(run + ": price(" + r + ")", x.price(r), m.price(r));
                break;
            case 21: {
                int k = below(31);
                due(run + ": cheap(" + r + ", " + k + ", " + what + ")", x.cheap(r, k, what), m.cheap(r, k, what));
                break;
            }
            case 22:
                due(run + ": sales(" + what + ")", x.sales(what), m.sales(what));
                break;
            case 23:
                due(run + ": surplus(" + r + ", " + h + ")", x.surplus(r, h), m.surplus(r, h));
                break;
            case 24:
                due(run + ": bonds(" + h + ", " + what + ")", x.bonds(h, what), m.bonds(h, what));
                break;
            case 25: {
                int k = random.nextInt(8) == 0 ? below(4) : 1 + random.nextInt(2);
                due(run + ": barter(" + k + ", " + what + ")", x.barter(k, what), m.barter(k, what));
                break;
            }
            case 26:
            case 27:
                whatSoldCall(run, what);
                break;
            case 28:
            case 29:
                whoCall(run, r);
                break;
            case 30: {
                int other = heir();
                due(run + ": peace(" + h + ", " + other + ")", x.peace(h, other), m.peace(h, other));
                break;
            }
            case 31:
            case 32: {
                int k = below(6);
                int p = below(11);
                due(run + ": prowl(" + k + ", " + p + ", " + what + ")", x.prowl(k, p, what), m.prowl(k, p, what));
                break;
            }
            default: {
                int seed = random.nextInt(10) == 0 ? below(2) * 1000000 : 1 + random.nextInt(999999);
                due(run + ": drawn(" + n + ", " + seed + ", " + what + ")",
                    x.drawn(n, seed, what), m.drawn(n, seed, what));
                break;
            }
        }
    }

    /** Mostly of a row that a sale would leave, so that something fits. */
    private void whatSoldCall(int run, int what) {
        int row = below(8);
        int i = below(3);
        int heirs = x.count(1);
        int sale = x.sales(1);
        if (sale >= 0 && random.nextInt(4) != 0 && row >= 0 && row < 8 && i >= 0 && i < 3) {
            x.row(row, 2, heirs + i);
            m.row(row, 2, heirs + i);
            int r = sale / 10;
            int h = sale % 10;
            int n = x.price(r) + random.nextInt(3);
            for (int k = 0; k < heirs; k++) {
                int v = x.heir(k, 0) + (k == h ? -n : k == x.right(r, 2) ? n : 0);
                v = random.nextInt(20) == 0 ? v + 1 : Math.min(v, 99);
                x.set(row, i + k, v);
                m.set(row, i + k, v);
            }
        }
        due(run + ": whatSold(" + row + ", " + i + ", " + what + ")",
            x.whatSold(row, i, what), m.whatSold(row, i, what));
    }

    /** Mostly of what is foretold, so that at least its own KIND fits. */
    private void whoCall(int run, int r) {
        int row = below(8);
        int i = below(3);
        int n = below(13);
        if (row >= 0 && row < 8 && i >= 0 && i < 3 && n > 0 && n <= 12 && random.nextInt(4) != 0 && x.kind(r) > 0) {
            x.row(row, 2, n + i);
            m.row(row, 2, n + i);
            for (int k = 0; k < n; k++) {
                int v = x.ahead(x.right(r, 2), k + 1, 0) + (random.nextInt(40) == 0 ? 1 : 0);
                x.set(row, i + k, v);
                m.set(row, i + k, v);
            }
        }
        due(run + ": who(" + r + ", " + row + ", " + i + ", " + n + ")", x.who(r, row, i, n), m.who(r, row, i, n));
    }

    private void askedCall(int run, int which) {
        int r = right();
        int what = below(2);
        switch (which) {
            case 34:
            case 35: {
                int k = below(2);
                if (random.nextInt(3) == 0) {
                    due(run + ": restore(" + k + ")", x.restore(k), m.restore(k));
                } else {
                    due(run + ": image(" + k + ")", x.image(k), m.image(k));
                }
                break;
            }
            case 36:
                due(run + ": kind(" + r + ")", x.kind(r), m.kind(r));
                break;
            case 37: {
                int kind = below(6);
                due(run + ": as(" + r + ", " + kind + ")", x.as(r, kind), m.as(r, kind));
                break;
            }
            case 38:
            case 39:
                due(run + ": ask(" + r + ", " + what + ")", x.ask(r, what), m.ask(r, what));
                break;
            case 40:
            case 41: {
                int i = below(8);
                due(run + ": trace(" + i + ")", x.trace(i), m.trace(i));
                break;
            }
            case 42:
                due(run + ": claims()", x.claims(), m.claims());
                break;
            case 43:
                due(run + ": feed(300)", x.feed(300), m.feed(300));
                break;
            default: {
                int k = below(8);
                due(run + ": count(" + k + ")", x.count(k), m.count(k));
                break;
            }
        }
    }
}
