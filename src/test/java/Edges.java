import java.io.IOException;
import java.lang.reflect.Method;
import java.nio.file.Files;
import java.nio.file.Path;
import java.util.HashMap;
import java.util.LinkedHashMap;
import java.util.Map;
import java.util.regex.Matcher;
import java.util.regex.Pattern;

/**
 * Sentences of the document that name a boundary case, one after another, each with the number of
 * its promise and with calls whose answers are due. A sentence is told in the document's own
 * words: edge() looks them up there, so that a test of what it does not say shows.
 */
final class Edges {
    private static final Path DOCUMENT = Path.of("../shared/DOC.md");
    private static final Pattern CALL = Pattern.compile("(?:(\\d+) times )?(\\w+)\\(([^)]*)\\)(?: = (\\S+))?");
    private static final Map<String, Long> NAMES = Map.ofEntries(
        Map.entry("NONE", -1000000L), Map.entry("BAD", -1000001L), Map.entry("STATE", -1000002L),
        Map.entry("FULL", -1000003L), Map.entry("NULL", -1000011L), Map.entry("PLACE", -1000012L),
        Map.entry("KIND", -1000013L), Map.entry("SIZE", -1000014L), Map.entry("STORE", -1000015L),
        Map.entry("MIN", (long) Integer.MIN_VALUE), Map.entry("MAX", (long) Integer.MAX_VALUE));

    private final Map<String, Method> methods = new HashMap<>();
    /** How many answers were looked at, by 'promise n, words'. */
    private final Map<String, Integer> answers = new LinkedHashMap<>();
    private final String name;
    /** Empty: it is not at hand, and no words can be looked up. */
    private final String document;
    private String sentence = "";
    private int wrong;

    Edges(String name) throws IOException {
        this.name = name;
        document = Files.exists(DOCUMENT) ? Files.readString(DOCUMENT) : "";
        if (document.isEmpty()) {
            System.out.println(name + ": " + DOCUMENT + " is not at hand, no words are looked up");
        }
        for (Method m : FirstCart.class.getMethods()) {
            methods.put(m.getName(), m);
        }
    }

    /** The sentence that the calls from here on are about. */
    void edge(int promise, String words) {
        sentence = "promise " + promise + ", '" + words + "'";
        answers.putIfAbsent(sentence, 0);
        if (!document.isEmpty() && !document.contains(words)) {
            fail("the document does not say so");
        }
        if (!document.isEmpty() && !document.contains("## Promise " + promise + ": ")) {
            fail("there is no such promise");
        }
    }

    /** Calls as 'set(0, 1, 2) = 2', '3 times hour() = 0'; without ' = ' any answer will do. */
    void on(FirstCart x, String... calls) {
        for (String call : calls) {
            Matcher m = CALL.matcher(call);
            if (!m.matches()) {
                throw new IllegalArgumentException("no call: " + call);
            }
            int times = m.group(1) == null ? 1 : Integer.parseInt(m.group(1));
            for (int i = 0; i < times; i++) {
                long got = answer(x, m.group(2), m.group(3));
                if (m.group(4) != null) {
                    due(call, got, number(m.group(4)));
                }
            }
        }
    }

    /** What a call as 'set(0, 1, 2)' answers, whatever is due. */
    long answer(FirstCart x, String call) {
        Matcher m = CALL.matcher(call);
        if (!m.matches() || m.group(1) != null || m.group(4) != null) {
            throw new IllegalArgumentException("no call: " + call);
        }
        return answer(x, m.group(2), m.group(3));
    }

    /** The text is read on a new object: the place and the number of its FAULT. */
    void faulty(String text, int place, int number) {
        FirstCart x = new FirstCart();
        String shown = text.length() > 40 ? ".. " + text.substring(text.length() - 40) : text;
        due("pass() of '" + shown + "'", Due.pass(x, text), -1000100 - place);
        due("fault() of '" + shown + "'", x.fault(), number);
    }

    /** The text is read on a new object: how many CARTS there are, no FAULT. */
    FirstCart read(String text, int carts) {
        FirstCart x = new FirstCart();
        due("pass() of '" + text + "'", Due.pass(x, text), carts);
        due("fault() of '" + text + "'", x.fault(), 0);
        return x;
    }

    void due(String call, long got, long want) {
        answers.merge(sentence, 1, Integer::sum);
        if (got != want) {
            fail(call + ": answered " + got + ", due is " + want);
        }
    }

    /** Ends the test: exit code 1 if an answer was wrong, or a promise of these has no sentence. */
    void end(int... promises) {
        int sum = 0;
        for (Map.Entry<String, Integer> e : answers.entrySet()) {
            sentence = e.getKey();
            sum += e.getValue();
            if (e.getValue() == 0) {
                fail("no answer was looked at");
            }
        }
        for (int p : promises) {
            sentence = "promise " + p;
            if (answers.keySet().stream().noneMatch(s -> s.startsWith("promise " + p + ","))) {
                fail("no sentence of it has a test");
            }
        }
        System.out.println(name + ": " + answers.size() + " sentences, " + sum + " answers, " + wrong + " wrong");
        if (wrong != 0) {
            System.exit(1);
        }
    }

    private void fail(String what) {
        wrong++;
        System.out.println(name + ": " + sentence + ": " + what);
    }

    private long answer(FirstCart x, String call, String list) {
        Method m = methods.get(call);
        String[] told = list.isBlank() ? new String[0] : list.split(",\\s*");
        if (m == null || m.getParameterCount() != told.length) {
            throw new IllegalArgumentException("no such call: " + call + "(" + list + ")");
        }
        Object[] arguments = new Object[told.length];
        for (int i = 0; i < told.length; i++) {
            long v = number(told[i]);
            arguments[i] = m.getParameterTypes()[i] == long.class ? (Object) v : (Object) Math.toIntExact(v);
        }
        try {
            return (Integer) m.invoke(x, arguments);
        } catch (ReflectiveOperationException e) {
            throw new IllegalStateException(call + "(" + list + ") threw", e);
        }
    }

    private static long number(String told) {
        Long named = NAMES.get(told);
        return named != null ? named : Long.decode(told);
    }
}
