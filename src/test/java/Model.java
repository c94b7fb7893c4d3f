import java.math.BigInteger;
import java.util.ArrayDeque;
import java.util.ArrayList;
import java.util.Arrays;
import java.util.Comparator;
import java.util.HashMap;
import java.util.List;
import java.util.Map;
import java.util.regex.Matcher;
import java.util.regex.Pattern;
import java.util.stream.Collectors;
import java.util.stream.IntStream;

/**
 * The document a second time, written in another way than the class (whole states kept for undo,
 * lists and comparators for trains, recursion forward in time for those who wait), so that a slip
 * in one of them shows where they differ.
 */
final class Model {
    static final int NONE = -1000000, BAD = -1000001, STATE = -1000002, FULL = -1000003;

    record Cart(String sort, int come, int haste, int patience) {
        Cart with(int p) {
            return new Cart(sort, come, haste, p);
        }
    }

    /** A PASS at a time: went by cart, payments by hour as {cart, sum}. */
    record State(List<Integer> toll, List<Cart> carts, int hour, Map<Integer, Integer> went, Map<Integer, int[]> pays) {
    }

    private final int[][] rows = new int[8][];
    private final int[] lanes = new int[8];
    private StringBuilder tape = new StringBuilder();
    private State now;
    private final State[] images = new State[2];
    private final ArrayDeque<State> before = new ArrayDeque<>();
    private List<Integer> trace = new ArrayList<>();
    private int fault;
    private int status;

    private int find(int number) {
        status = number;
        return -1000010 - number;
    }

    private static boolean in(long v, long a, long b) {
        return a <= v && v <= b;
    }

    private boolean isCart(int c) {
        return now != null && in(c, 0, now.carts.size() - 1);
    }

    int row(int r, int lane, int n) {
        if (!in(r, 0, 7) || !in(lane, 0, 2) || n > 40) return BAD;
        if (n < 0) return find(4);
        rows[r] = new int[n];
        lanes[r] = lane;
        status = 0;
        return n;
    }

    int set(int r, int i, int v) {
        if (!in(r, 0, 7)) return BAD;
        if (rows[r] == null) return find(1);
        if (!in(i, 0, rows[r].length - 1)) return find(2);
        int bits = 8 << lanes[r];
        status = 0;
        return rows[r][i] = v << 32 - bits >> 32 - bits;
    }

    int copy(int a, int i, int b, int j, int n) {
        if (!in(a, 0, 7) || !in(b, 0, 7)) return BAD;
        if (rows[a] == null || rows[b] == null) return find(1);
        if (lanes[a] != lanes[b]) return find(5);
        if (i < 0 || j < 0 || n < 0 || (long) i + n > rows[a].length || (long) j + n > rows[b].length) return find(2);
        int[] ahead = Arrays.copyOfRange(rows[a], i, i + n);
        for (int k = 0; k < n; k++) rows[b][j + k] = ahead[k];
        status = 0;
        return n;
    }

    int drop(int r) {
        if (!in(r, 0, 7)) return BAD;
        if (rows[r] == null) return find(1);
        int n = rows[r].length;
        rows[r] = null;
        status = 0;
        return n;
    }

    int feed(long w, int n) {
        if (!in(n, 1, 8)) return BAD;
        if (tape.length() + n > 400) return FULL;
        for (int k = 8 - n; k < 8; k++) tape.append((char) (w << 8 * k >>> 56));
        return tape.length();
    }

    private static final Pattern TOKENS = Pattern.compile("[a-z]+|[0-9]+|[^ \n]", Pattern.DOTALL);
    private static final List<String> CART = List.of("cart", "SORT", "11", "20", "11", ";");
    private static final List<String> TOLL = List.of("toll", "99", "99", "99", "99", "99", "99", ";");
    private static final List<String> SORTS = List.of("", "wait", "form", "back", "go", "blind");

    /** 0, or the FAULT of a token where 'want' is to stand: a word, a sign, or the most of a number. */
    private static int faultOf(String token, String want) {
        if (want.matches("[0-9]+")) {
            if (!token.matches("[0-9]{1,3}")) return 1;
            return Integer.parseInt(token) <= Integer.parseInt(want) ? 0 : 2;
        }
        if (want.equals("SORT")) return SORTS.indexOf(token) > 0 ? 0 : 1;
        return token.equals(want) ? 0 : 1;
    }

    int pass() {
        String text = tape.toString();
        tape = new StringBuilder();
        Matcher m = TOKENS.matcher(text);
        List<String> words = new ArrayList<>();
        List<String> wanted = new ArrayList<>(TOLL);
        int at = 0;
        while (m.find()) {
            if (at == wanted.size()) {
                if (m.group().equals("cart") && words.size() == 8 + 6 * 6) return failed(3, m.start());
                wanted.addAll(CART);
            }
            int f = faultOf(m.group(), wanted.get(at));
            if (f != 0) return failed(f, m.start());
            words.add(m.group());
            at++;
        }
        if (at < wanted.size()) return failed(1, text.length());
        List<Integer> toll = words.subList(1, 7).stream().map(Integer::valueOf).collect(Collectors.toList());
        List<Cart> carts = new ArrayList<>();
        for (int i = 8; i < words.size(); i += 6) {
            carts.add(new Cart(words.get(i + 1), Integer.parseInt(words.get(i + 2)),
                Integer.parseInt(words.get(i + 3)), Integer.parseInt(words.get(i + 4))));
        }
        now = anew(toll, carts);
        before.clear();
        return carts.size();
    }

    private int failed(int number, int place) {
        fault = number;
        return -1000100 - place;
    }

    int fault() {
        return fault;
    }

    private static State anew(List<Integer> toll, List<Cart> carts) {
        return new State(toll, carts, 0, Map.of(), Map.of());
    }

    private static boolean isReady(Cart c, int hour, int standing) {
        if (hour == 11 || c.sort.equals("blind")) return true;
        if (c.sort.equals("back")) return false;
        return hour >= c.come + c.patience || c.sort.equals("form") && standing >= 3;
    }

    private static State next(State s, int[] firsts) {
        List<Integer> stand = IntStream.range(0, s.carts.size()).boxed()
            .filter(c -> s.carts.get(c).come <= s.hour && !s.went.containsKey(c)).toList();
        List<Integer> ready = stand.stream().filter(c -> isReady(s.carts.get(c), s.hour, stand.size())).toList();
        Map<Integer, Integer> went = new HashMap<>(s.went);
        Map<Integer, int[]> pays = new HashMap<>(s.pays);
        if (!ready.isEmpty()) {
            List<Integer> train = stand.stream().filter(c -> ready.contains(c)
                || List.of("wait", "form", "back").contains(s.carts.get(c).sort)).toList();
            int first = ready.stream().min(Comparator.<Integer>comparingInt(c -> s.carts.get(c).sort.equals("back") ? 1 : 0)
                .thenComparingInt(c -> firsts == null ? 0 : firsts[c])
                .thenComparingInt(c -> s.carts.get(c).come).thenComparingInt(c -> c)).get();
            for (int c : train) went.put(c, s.hour);
            pays.put(s.hour, new int[] {first, s.toll.get(Math.min(6, train.size()) - 1)});
        }
        return new State(s.toll, s.carts, s.hour + 1, went, pays);
    }

    private static State wholeDay(State s, List<Cart> carts, int[] firsts) {
        State d = anew(s.toll, carts);
        for (int h = 0; h < 12; h++) d = next(d, firsts);
        return d;
    }

    private static int paid(State s, int cart) {
        return s.pays.values().stream().filter(p -> p[0] == cart).mapToInt(p -> p[1]).sum();
    }

    private static int cost(State s, int cart) {
        Cart c = s.carts.get(cart);
        return s.went.containsKey(cart) ? c.haste * (s.went.get(cart) - c.come) + paid(s, cart) : NONE;
    }

    private void act() {
        before.addLast(now);
        if (before.size() > 24) before.removeFirst();
    }

    int hour() {
        if (now == null) return STATE;
        if (now.hour > 11) return FULL;
        act();
        now = next(now, null);
        int train = 0;
        for (Map.Entry<Integer, Integer> e : now.went.entrySet()) {
            if (e.getValue() == now.hour - 1) train += 1 << e.getKey();
        }
        return train;
    }

    private static List<Cart> patient(List<Cart> carts, int cart, int patience) {
        List<Cart> changed = new ArrayList<>(carts);
        changed.set(cart, carts.get(cart).with(patience));
        return changed;
    }

    int waits(int cart, int patience) {
        if (!isCart(cart) || !in(patience, 0, 11)) return BAD;
        if (now.went.containsKey(cart)) return STATE;
        act();
        int was = now.carts.get(cart).patience;
        now = new State(now.toll, patient(now.carts, cart, patience), now.hour, now.went, now.pays);
        return was;
    }

    int undo() {
        if (before.isEmpty()) return STATE;
        now = before.removeLast();
        return before.size();
    }

    int cart(int cart, int what) {
        if (!isCart(cart) || !in(what, 0, 5)) return BAD;
        Cart c = now.carts.get(cart);
        return List.of(c.come, c.haste, c.patience, now.went.getOrDefault(cart, NONE), paid(now, cart), cost(now, cart)).get(what);
    }

    int day(int cart, int what) {
        if (!isCart(cart) || !in(what, 0, 2)) return BAD;
        State d = wholeDay(now, now.carts, null);
        return List.of(d.went.get(cart), cost(d, cart), paid(d, cart)).get(what);
    }

    int judge(int r, int i) {
        if (now == null) return STATE;
        if (!in(r, 0, 7)) return BAD;
        if (rows[r] == null) return find(1);
        if (!in(i, 0, rows[r].length - 12)) return find(2);
        for (int k = i; k < i + 12; k++) if (rows[r][k] != -1 && !isCart(rows[r][k])) return BAD;
        status = 0;
        State d = wholeDay(now, now.carts, null);
        for (int h = 0; h < 12; h++) {
            if (rows[r][i + h] != (d.pays.containsKey(h) ? d.pays.get(h)[0] : -1)) return h;
        }
        return NONE;
    }

    private static int[] best(State s, List<Cart> carts, int cart) {
        return IntStream.range(0, 12).mapToObj(p -> new int[] {p, cost(wholeDay(s, patient(carts, cart, p), null), cart)})
            .min(Comparator.comparingInt((int[] b) -> b[1]).thenComparingInt(b -> b[0])).get();
    }

    int best(int cart, int what) {
        return !isCart(cart) || !in(what, 0, 1) ? BAD : best(now, now.carts, cart)[what];
    }

    int rest(int cart) {
        if (now == null) return STATE;
        if (cart != -1 && !isCart(cart)) return BAD;
        List<Cart> carts = now.carts;
        int rounds = 0;
        boolean rests = false;
        while (rounds < 20 && !rests) {
            List<Cart> ahead = carts;
            for (int c = 0; c < carts.size(); c++) carts = patient(carts, c, best(now, carts, c)[0]);
            rests = carts.equals(ahead);
            rounds++;
        }
        if (cart == -1) return rests ? rounds : NONE;
        return carts.get(cart).patience;
    }

    int thought(int cart, int hour) {
        if (!isCart(cart) || !in(hour, 0, 11)) return BAD;
        return IntStream.range(0, 12).filter(p -> wholeDay(now, patient(now.carts, cart, p), null).went.get(cart) == hour)
            .map(p -> 1 << p).sum();
    }

    /** {hour, who, cost of a, cost of b} if they stand in an hour and a is asked. */
    private int[] outcome(int a, int b, int hour) {
        int toll = now.toll.get(1);
        int[] aGoes = {hour, a, toll, 0};
        if (hour == 11) return aGoes;
        int[] wait = outcome(a, b, hour + 1);
        wait[2] += now.carts.get(a).haste;
        wait[3] += now.carts.get(b).haste;
        int[] bGoes = {hour, b, 0, toll};
        int[] bDoes = bGoes[3] <= wait[3] ? bGoes : wait;
        return aGoes[2] <= bDoes[2] ? aGoes : bDoes;
    }

    int two(int a, int b, int hour, int what) {
        if (!isCart(a) || !isCart(b) || a == b || !in(hour, 0, 11) || !in(what, 0, 1)) return BAD;
        return outcome(a, b, hour)[what];
    }

    int shares(int n, int k) {
        if (now == null) return STATE;
        if (!in(n, 1, 6) || k < -1) return BAD;
        int[] parts = new int[n];
        for (int coin = 0; coin < now.toll.get(n - 1); coin++) parts[coin % n]++;
        if (k >= 0) return k < n ? parts[k] : NONE;
        return IntStream.range(1, n).allMatch(m -> Arrays.stream(parts, 0, m).sum() <= now.toll.get(m - 1)) ? 1 : 0;
    }

    int size() {
        if (now == null) return STATE;
        return IntStream.rangeClosed(1, 6).boxed().min(Comparator.comparingInt(n -> now.toll.get(n - 1) * 60 / n)).get();
    }

    int book(int cart, int n) {
        if (!isCart(cart) || !in(n, 1, 30)) return BAD;
        int[] firsts = new int[6];
        for (int d = 0; d < n; d++) {
            for (int[] p : wholeDay(now, now.carts, firsts.clone()).pays.values()) firsts[p[0]]++;
        }
        return firsts[cart];
    }

    /** Least mean cost, as parts of 100 to the n. */
    private static BigInteger mean(int toll, int haste, int p, int n) {
        BigInteger go = BigInteger.valueOf(toll).multiply(BigInteger.valueOf(100).pow(n));
        if (n == 0) return go;
        BigInteger hour = BigInteger.valueOf(haste).multiply(BigInteger.valueOf(100).pow(n));
        return go.min(hour.add(BigInteger.valueOf(100 - p).multiply(mean(toll, haste, p, n - 1))));
    }

    int ford(int cart, int p, int n, int what) {
        if (!isCart(cart) || !in(p, 0, 100) || !in(n, 0, 3) || !in(what, 0, 1)) return BAD;
        BigInteger above = mean(now.toll.get(0), now.carts.get(cart).haste, p, n);
        BigInteger below = BigInteger.valueOf(100).pow(n);
        return (what == 0 ? above : below).divide(above.gcd(below)).intValueExact();
    }

    int goat(int cart, int hour) {
        if (!isCart(cart) || !in(hour, 0, 11)) return BAD;
        List<Cart> more = new ArrayList<>(now.carts);
        more.add(new Cart("blind", hour, 0, 0));
        State with = wholeDay(now, more, null);
        return cost(with, cart) + paid(with, more.size() - 1) - cost(wholeDay(now, now.carts, null), cart);
    }

    int image(int k) {
        if (!in(k, 0, 1)) return BAD;
        if (now == null) return STATE;
        images[k] = now;
        return 1;
    }

    int restore(int k) {
        if (!in(k, 0, 1)) return BAD;
        if (images[k] == null) return STATE;
        now = images[k];
        before.clear();
        return 1;
    }

    int kind(int cart) {
        return isCart(cart) ? SORTS.indexOf(now.carts.get(cart).sort) : BAD;
    }

    int as(int cart, int kind) {
        if (!isCart(cart) || !in(kind, 0, 5)) return BAD;
        boolean is = switch (kind(cart)) {
            case 1 -> kind < 2;
            case 2 -> kind < 3;
            case 3 -> kind < 2 || kind == 3;
            case 4 -> kind == 0 || kind == 4;
            default -> kind == 0 || kind > 3;
        };
        if (!is) return find(3);
        status = 0;
        return cart;
    }

    int ask(int cart, int what) {
        if (!isCart(cart) || !in(what, 0, 1)) return BAD;
        Asked asked = asked(cart);
        int answer = what == 0 ? asked.size() : asked.mark();
        trace = asked.left();
        return answer;
    }

    int trace(int i) {
        return in(i, 0, Math.min(16, trace.size()) - 1) ? trace.get(i) : NONE;
    }

    int count(int what) {
        if (!in(what, 0, 6)) return BAD;
        if (what == 0) return (int) Arrays.stream(rows).filter(r -> r != null).count();
        if (what == 6) return tape.length();
        if (now == null) return 0;
        int paid = now.pays.values().stream().mapToInt(p -> p[1]).sum();
        return new int[] {now.carts.size(), now.hour, now.went.size(), before.size(), paid}[what - 1];
    }

    int status() {
        return status;
    }

    private Asked asked(int cart) {
        Cart c = now.carts.get(cart);
        Any any = switch (c.sort) {
            case "wait" -> new Wait();
            case "form" -> new Form();
            case "back" -> new Back();
            case "go" -> new Go();
            default -> new Blind();
        };
        any.number = cart;
        any.cart = c;
        return any;
    }

    /** KINDS as Java's own classes; bodies that are lent as an interface's own. */
    interface Asked {
        List<Integer> left();
        Cart told();
        int number();

        default int size() {
            left().add(10);
            return told().haste();
        }

        default int mark() {
            left().add(20);
            return number();
        }
    }

    abstract static class Any implements Asked {
        private final List<Integer> left = new ArrayList<>();
        int number;
        Cart cart;

        @Override public List<Integer> left() {
            return left;
        }

        @Override public Cart told() {
            return cart;
        }

        @Override public int number() {
            return number;
        }
    }

    static class Wait extends Any {
        @Override public int size() {
            left().add(11);
            return super.size() + mark();
        }

        @Override public int mark() {
            left().add(21);
            return super.mark() + told().come();
        }
    }

    static class Form extends Wait {
        @Override public int size() {
            left().add(12);
            return -super.size();
        }

        @Override public int mark() {
            left().add(24);
            return 2 * super.mark();
        }
    }

    static class Back extends Wait {
        @Override public int mark() {
            left().add(22);
            return super.mark() - 1000;
        }
    }

    static class Go extends Any {
        @Override public int size() {
            left().add(13);
            return super.size() - 100;
        }

        @Override public int mark() {
            left().add(23);
            return super.mark() - size();
        }
    }

    static class Blind extends Go {
        @Override public int size() {
            left().add(14);
            return 2 * super.size();
        }
    }
}
