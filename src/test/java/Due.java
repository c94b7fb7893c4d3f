import java.nio.charset.StandardCharsets;

/** Counts the answers that are not as due; helps the tests to feed texts. */
final class Due {
    static final int NONE = -1000000, BAD = -1000001, STATE = -1000002, FULL = -1000003;
    static final int NULL = -1000011, PLACE = -1000012, KIND = -1000013, SIZE = -1000014, STORE = -1000015;

    private final String name;
    private int calls;
    private int wrong;

    Due(String name) {
        this.name = name;
    }

    void due(String call, long got, long want) {
        calls++;
        if (got != want) {
            wrong++;
            System.out.println(name + ": " + call + " answered " + got + ", due is " + want);
        }
    }

    /** Ends the test: exit code 1 if an answer was wrong. */
    void end() {
        System.out.println(name + ": " + calls + " answers, " + wrong + " not as due");
        if (wrong != 0 || calls == 0) {
            System.exit(1);
        }
    }

    static void feed(FirstCart x, String text) {
        byte[] bytes = text.getBytes(StandardCharsets.ISO_8859_1);
        for (int at = 0; at < bytes.length; at += 8) {
            int n = Math.min(8, bytes.length - at);
            long w = 0;
            for (int i = 0; i < n; i++) {
                w = w << 8 | bytes[at + i] & 255;
            }
            x.feed(w, n);
        }
    }

    static int pass(FirstCart x, String text) {
        feed(x, text);
        return x.pass();
    }

    /** A new object with a PASS: the toll, and carts as 'go 0 0 0', ... */
    static FirstCart with(String toll, String... carts) {
        FirstCart x = new FirstCart();
        StringBuilder text = new StringBuilder("toll " + toll + ";");
        for (String cart : carts) {
            text.append("cart ").append(cart).append(';');
        }
        if (pass(x, text.toString()) != carts.length) {
            throw new IllegalStateException("not read: " + text);
        }
        return x;
    }

    static void hours(FirstCart x, int n) {
        for (int i = 0; i < n; i++) {
            x.hour();
        }
    }
}
