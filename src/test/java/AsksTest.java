/** Promises 26 to 29, and of 31 what as() brings about: kind, as, ask, trace, status. */
public final class AsksTest {
    private static final Due D = new Due("AsksTest");

    public static void main(String[] args) {
        kinds();
        asks();
        traces();
        D.end();
    }

    private static FirstCart allSorts() {
        return Due.with("1 2 3 4 5 6", "blind 0 7 0", "wait 5 9 0", "form 3 11 0", "back 8 4 0", "go 2 6 0");
    }

    private static void kinds() {
        FirstCart x = allSorts();
        int[] kinds = {5, 1, 2, 3, 4};
        String[] are = {"100011", "110000", "111000", "110100", "100010"};
        for (int c = 0; c < 5; c++) {
            D.due("kind(" + c + ")", x.kind(c), kinds[c]);
            for (int k = 0; k < 6; k++) {
                boolean is = are[c].charAt(k) == '1';
                D.due("as(" + c + ", " + k + ")", x.as(c, k), is ? c : Due.KIND);
                D.due("status", x.status(), is ? 0 : 3);
            }
        }
        x.as(1, 2);
        D.due("kind(5)", x.kind(5), Due.BAD);
        D.due("kind(-1)", x.kind(-1), Due.BAD);
        D.due("as(5, 0)", x.as(5, 0), Due.BAD);
        D.due("as(-1, 0)", x.as(-1, 0), Due.BAD);
        D.due("as(0, 6)", x.as(0, 6), Due.BAD);
        D.due("as(0, -1)", x.as(0, -1), Due.BAD);
        D.due("status stays", x.status(), 3);
        x.hour();
        D.due("other calls leave the status", x.status(), 3);
        x.row(0, 0, 1);
        D.due("status", x.status(), 0);
    }

    private static void ask(FirstCart x, int cart, int what, int answer, int... bodies) {
        String call = "ask(" + cart + ", " + what + ")";
        D.due(call, x.ask(cart, what), answer);
        for (int i = 0; i < bodies.length; i++) {
            D.due(call + ", trace(" + i + ")", x.trace(i), bodies[i]);
        }
        D.due(call + ", trace behind", x.trace(bodies.length), Due.NONE);
    }

    private static void asks() {
        FirstCart x = allSorts();
        ask(x, 0, 0, -186, 14, 13, 10);
        ask(x, 0, 1, 186, 23, 20, 14, 13, 10);
        ask(x, 1, 0, 15, 11, 10, 21, 20);
        ask(x, 1, 1, 6, 21, 20);
        ask(x, 2, 0, -21, 12, 11, 10, 24, 21, 20);
        ask(x, 2, 1, 10, 24, 21, 20);
        ask(x, 3, 0, -985, 11, 10, 22, 21, 20);
        ask(x, 3, 1, -989, 22, 21, 20);
        ask(x, 4, 0, -94, 13, 10);
        ask(x, 4, 1, 98, 23, 20, 13, 10);
    }

    private static void traces() {
        FirstCart x = allSorts();
        D.due("empty at first", x.trace(0), Due.NONE);
        x.ask(4, 0);
        D.due("ask(5, 0)", x.ask(5, 0), Due.BAD);
        D.due("ask(-1, 0)", x.ask(-1, 0), Due.BAD);
        D.due("ask(0, 2)", x.ask(0, 2), Due.BAD);
        D.due("ask(0, -1)", x.ask(0, -1), Due.BAD);
        D.due("refused: the trace stays", x.trace(0), 13);
        D.due("refused: the trace stays", x.trace(1), 10);
        D.due("trace(-1)", x.trace(-1), Due.NONE);
        D.due("trace(16)", x.trace(16), Due.NONE);
        D.due("trace(MIN)", x.trace(Integer.MIN_VALUE), Due.NONE);
        D.due("trace(MAX)", x.trace(Integer.MAX_VALUE), Due.NONE);
        Due.pass(x, "toll 1 2 3 4 5 6;");
        D.due("a pass leaves the trace", x.trace(0), 13);
        D.due("asks leave the status", x.status(), 0);
    }
}
