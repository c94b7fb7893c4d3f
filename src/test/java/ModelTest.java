import java.nio.charset.StandardCharsets;
import java.util.Random;

/** All promises: runs of calls drawn from fixed seeds, the class beside the model. */
public final class ModelTest {
    private static final Due D = new Due("ModelTest");
    private static final int RUNS = 1500, CALLS = 512;
    private static final int[] ODD = {Integer.MIN_VALUE, Integer.MAX_VALUE, -2, -1, 6, 7, 8, 12, 13, 31, 41, 101};

    private final Random random;
    private final FirstCart x = new FirstCart();
    private final Model m = new Model();
    private final String run;

    private ModelTest(int seed) {
        random = new Random(seed);
        run = "run " + seed + ": ";
    }

    public static void main(String[] args) {
        for (int seed = 0; seed < RUNS; seed++) {
            ModelTest t = new ModelTest(seed);
            t.readText();
            for (int left = CALLS; left > 0;) {
                left -= t.call();
            }
        }
        D.end();
    }

    /** Mostly 0 to most, now and then something else. */
    private int some(int most) {
        return random.nextInt(16) == 0 ? ODD[random.nextInt(ODD.length)] : random.nextInt(most + 1);
    }

    private void due(String call, int got, int want) {
        D.due(run + call, got, want);
    }

    private void feed(String text) {
        byte[] bytes = text.getBytes(StandardCharsets.ISO_8859_1);
        for (int at = 0; at < bytes.length;) {
            int n = Math.min(1 + random.nextInt(8), bytes.length - at);
            long w = random.nextLong();
            for (int i = 0; i < n; i++) {
                w = w << 8 | bytes[at++] & 255;
            }
            due("feed(" + w + ", " + n + ")", x.feed(w, n), m.feed(w, n));
        }
    }

    private String text() {
        boolean isOdd = random.nextInt(3) == 0;
        StringBuilder t = new StringBuilder("toll");
        int low = random.nextInt(3);
        for (int i = 0; i < 6; i++) {
            t.append(' ').append(low == 0 ? random.nextInt(3) : low == 1 ? 10 + 3 * i : random.nextInt(100));
        }
        t.append(';');
        int carts = isOdd ? random.nextInt(9) : random.nextInt(7);
        String[] sorts = {"wait", "go", "form", "back", "blind"};
        int span = 1 + random.nextInt(12);
        int haste = 1 + random.nextInt(21);
        for (int c = 0; c < carts; c++) {
            t.append("cart ").append(sorts[random.nextInt(5)]).append(' ').append(random.nextInt(span)).append(' ')
                .append(random.nextInt(haste)).append(' ').append(random.nextInt(12)).append(random.nextInt(4) == 0 ? " \n; " : ";");
        }
        return isOdd ? spoiled(t) : t.toString();
    }

    /** Some bytes are left out, put in, or other ones. */
    private String spoiled(StringBuilder t) {
        String signs = "0123456789;; \n\tacorgtZ?" + (char) 233;
        for (int k = random.nextInt(3); k >= 0; k--) {
            int at = random.nextInt(t.length());
            char c = signs.charAt(random.nextInt(signs.length()));
            switch (random.nextInt(4)) {
                case 0 -> t.insert(at, c);
                case 1 -> t.deleteCharAt(at);
                case 2 -> t.setCharAt(at, c);
                default -> t.setLength(Math.max(1, at));
            }
        }
        return t.toString();
    }

    /** One call, but a text is some calls: how many, about. */
    private int call() {
        int kind = random.nextInt(120);
        if (kind == 0) {
            readText();
            return 40;
        }
        if (kind < 4) {
            long w = random.nextLong();
            int n = some(8);
            due("feed(" + w + ", " + n + ")", x.feed(w, n), m.feed(w, n));
        } else {
            other(some(5), some(5), some(11));
        }
        return 1;
    }

    private void readText() {
        if (random.nextInt(8) != 0) {
            due("pass()", x.pass(), m.pass());
        }
        String t = text();
        feed(t);
        due("pass() of " + t, x.pass(), m.pass());
        due("fault()", x.fault(), m.fault());
    }

    private void other(int a, int b, int h) {
        int w = some(1);
        int q = some(5);
        int i = some(14);
        int v = random.nextInt(4) == 0 ? random.nextInt() : random.nextInt(7) - 1;
        int r = some(3);
        int s = some(3);
        int n = some(16);
        switch (random.nextInt(40)) {
            case 0, 1 -> due("row " + r + " " + w + " " + n, x.row(r, w, n), m.row(r, w, n));
            case 2, 3, 4 -> due("set " + r + " " + i + " " + v, x.set(r, i, v), m.set(r, i, v));
            case 5 -> due("copy", x.copy(r, i, s, h, n), m.copy(r, i, s, h, n));
            case 6 -> due("drop " + r, x.drop(r), m.drop(r));
            case 7, 8, 9 -> due("hour()", x.hour(), m.hour());
            case 10, 11 -> due("waits " + a + " " + h, x.waits(a, h), m.waits(a, h));
            case 12, 13 -> due("undo()", x.undo(), m.undo());
            case 14, 15 -> due("cart " + a + " " + q, x.cart(a, q), m.cart(a, q));
            case 16 -> due("day " + a + " " + q, x.day(a, q), m.day(a, q));
            case 17 -> judged(r, s);
            case 18 -> due("best " + a + " " + w, x.best(a, w), m.best(a, w));
            case 19 -> rested(a);
            case 20 -> due("thought " + a + " " + h, x.thought(a, h), m.thought(a, h));
            case 21 -> due("two " + a + " " + b + " " + h + " " + w, x.two(a, b, h, w), m.two(a, b, h, w));
            case 22 -> due("shares " + b + " " + (q - 1), x.shares(b, q - 1), m.shares(b, q - 1));
            case 23 -> due("size()", x.size(), m.size());
            case 24 -> booked(a, random.nextInt(9) == 0 ? some(30) : some(5));
            case 25 -> forded(a, some(100), some(3), w);
            case 26 -> due("goat " + a + " " + h, x.goat(a, h), m.goat(a, h));
            case 27 -> due("image " + w, x.image(w), m.image(w));
            case 28 -> due("restore " + w, x.restore(w), m.restore(w));
            case 29 -> due("kind " + a, x.kind(a), m.kind(a));
            case 30, 31 -> due("as " + a + " " + b, x.as(a, b), m.as(a, b));
            case 32, 33 -> due("ask " + a + " " + w, x.ask(a, w), m.ask(a, w));
            case 34 -> due("trace " + q, x.trace(q), m.trace(q));
            case 35, 36 -> due("count " + (q + 1), x.count(q + 1), m.count(q + 1));
            case 37 -> due("count 0", x.count(0), m.count(0));
            case 38 -> due("fault()", x.fault(), m.fault());
            default -> due("status()", x.status(), m.status());
        }
    }

    /** A row that tells the day, but for one hour, now and then. */
    private void judged(int r, int i) {
        if (random.nextInt(2) == 0) {
            due("row", x.row(r, 0, 15), m.row(r, 0, 15));
            for (int h = 0; h < 12; h++) {
                int payer = -1;
                for (int c = 0; c < m.count(1); c++) {
                    payer = m.day(c, 0) == h && m.day(c, 2) > 0 ? c : payer;
                }
                int v = random.nextInt(40) == 0 ? random.nextInt(8) - 2 : payer;
                due("set", x.set(r, i + h, v), m.set(r, i + h, v));
            }
        }
        due("judge " + r + " " + i, x.judge(r, i), m.judge(r, i));
    }

    private void rested(int cart) {
        int c = random.nextInt(2) == 0 ? -1 : cart;
        due("rest " + c, x.rest(c), m.rest(c));
    }

    private void booked(int cart, int n) {
        due("book " + cart + " " + n, x.book(cart, n), m.book(cart, n));
    }

    private void forded(int cart, int p, int n, int what) {
        due("ford " + cart + " " + p + " " + n + " " + what, x.ford(cart, p, n, what), m.ford(cart, p, n, what));
    }
}
