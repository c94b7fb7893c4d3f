import java.io.IOException;
import java.util.ArrayList;
import java.util.List;

/**
 * Promises 2 to 31, in five states: calls with numbers at and beyond every edge. None throws, and
 * what is refused, or found, changes nothing but status(): an object with such calls answers
 * behind them as its twin does without them.
 */
public final class RefusedTest {
    /** The calls in the order of their promises (2 to 31), with how many numbers they take. */
    private static final String[] CALLS = {"row 3", "set 3", "copy 5", "drop 1", "feed 2", "pass 0", "fault 0", "hour 0",
        "waits 2", "undo 0", "cart 2", "day 2", "judge 2", "best 2", "rest 1", "thought 2", "two 4", "shares 2", "size 0",
        "book 2", "ford 4", "goat 2", "image 1", "restore 1", "kind 1", "as 2", "ask 2", "trace 1", "count 1", "status 0"};
    private static final String MANY = "MIN -2147483647 -40 -2 -1 0 1 2 3 5 6 7 8 9 11 12 13 28 29 30 31 40 41 100 101 2147483646 MAX";
    private static final String SOME = "MIN -2 -1 0 1 5 6 7 8 12 40 41 101 MAX";
    private static final String FEW = "MIN -1 0 3 4 12 MAX";
    /** So many refused calls on one object: it is used for 512 calls at most. */
    private static final int TOGETHER = 120;
    private static final int STATES = 5;

    private final Edges e = new Edges("RefusedTest");

    private RefusedTest() throws IOException {
    }

    public static void main(String[] args) throws IOException {
        RefusedTest t = new RefusedTest();
        int[] promises = new int[CALLS.length];
        for (int i = 0; i < CALLS.length; i++) {
            promises[i] = 2 + i;
            t.e.edge(2 + i, "What is refused, or found, changes nothing but status().");
            for (int state = 0; state < STATES; state++) {
                t.look(state, calls(CALLS[i]));
            }
        }
        t.e.end(promises);
    }

    private static List<String> calls(String nameAndNumbers) {
        String[] told = nameAndNumbers.split(" ");
        int n = Integer.parseInt(told[1]);
        String[] numbers = (n < 3 ? MANY : n < 4 ? SOME : FEW).split(" ");
        List<String> lists = List.of("");
        for (int i = 0; i < n; i++) {
            List<String> longer = new ArrayList<>();
            for (String list : lists) {
                for (String number : numbers) {
                    longer.add(list.isEmpty() ? number : list + ", " + number);
                }
            }
            lists = longer;
        }
        return lists.stream().map(list -> told[0] + "(" + list + ")").toList();
    }

    private static boolean isRefused(long answer) {
        return answer >= -1000015 && answer <= -1000011 || answer >= -1000003 && answer <= -1000001;
    }

    private void look(int state, List<String> calls) {
        List<String> refused = new ArrayList<>();
        FirstCart scratch = made(state);
        int used = 0;
        for (String call : calls) {
            boolean isSo = isRefused(e.answer(scratch, call));
            if (isSo) {
                refused.add(call);
            }
            used++;
            if (!isSo || used == TOGETHER) {
                scratch = made(state);
                used = 0;
            }
        }
        String want = told(made(state));
        e.due("a twin tells the same", told(made(state)).equals(want) ? 1 : 0, 1);
        for (int from = 0; from < refused.size(); from += TOGETHER) {
            List<String> some = refused.subList(from, Math.min(from + TOGETHER, refused.size()));
            FirstCart x = made(state);
            for (String call : some) {
                e.due("in state " + state + " again " + call, isRefused(e.answer(x, call)) ? 1 : 0, 1);
            }
            String got = told(x);
            e.due("in state " + state + " behind " + some.get(0) + " .. " + some.get(some.size() - 1) + " " + got
                + ", not " + want, got.equals(want) ? 1 : 0, 1);
        }
    }

    private FirstCart made(int state) {
        FirstCart x = new FirstCart();
        if (state == 0) {
            return x;
        }
        e.on(x, "row(0, 0, 12)", "row(3, 1, 13)", "row(5, 2, 40)", "row(7, 0, 0)", "set(0, 1, 1)", "set(3, 12, 5)", "set(5, 28, -1)");
        String carts = state == 1 ? ""
            : "cart wait 0 3 4;cart go 1 2 6;cart form 5 1 9;cart back 2 4 0;cart blind 7 20 0;cart wait 11 6 11;";
        Due.pass(x, "toll 20 24 27 29 30 31;" + carts);
        if (state >= 3) {
            e.on(x, "ask(2, 0)", "hour()", "image(1)", "waits(1, 7)", "4 times hour()");
        }
        if (state == 4) {
            e.on(x, "9 times hour()", "undo()", "hour()", "image(0)", "50 times feed(0x2020202020202020, 8)");
            e.on(x, "restore(1)", "20 times waits(5, 3)", "12 times hour()");
        } else {
            Due.feed(x, "toll 9 9 9 9 9 9;cart go ");
        }
        return x;
    }

    /** All that can be told of an object but status(), and what it answers to calls that change it. */
    private String told(FirstCart x) {
        StringBuilder all = new StringBuilder();
        tell(all, x, "fault()", "size()", "rest(-1)", "trace(0)", "trace(3)", "trace(5)", "trace(6)");
        for (int what = 0; what < 7; what++) {
            tell(all, x, "count(" + what + ")", "shares(" + (what + 1) + ", 0)");
        }
        for (int c = 0; c < 6; c++) {
            tell(all, x, "kind(" + c + ")", "day(" + c + ", 1)");
            for (int what = 0; what < 6; what++) {
                tell(all, x, "cart(" + c + ", " + what + ")");
            }
        }
        for (int i = 0; i < 2; i++) {
            tell(all, x, "judge(0, 0)", "judge(3, " + i + ")", "judge(5, " + 28 * i + ")");
        }
        tell(all, x, "hour()", "undo()", "undo()", "cart(1, 2)", "cart(5, 2)", "undo()", "count(2)", "count(4)", "hour()",
            "restore(0)", "count(2)", "count(3)", "cart(1, 2)", "restore(1)", "count(2)", "count(5)", "hour()", "hour()",
            "feed(48, 1)", "pass()", "fault()", "count(1)");
        for (int r = 0; r < 8; r++) {
            tell(all, x, "set(" + r + ", 0, 98304)", "drop(" + r + ")");
        }
        return all.toString();
    }

    private void tell(StringBuilder all, FirstCart x, String... calls) {
        for (String call : calls) {
            all.append(e.answer(x, call)).append(' ');
        }
    }
}
