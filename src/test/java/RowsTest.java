/** Promises 2 to 5 (row, set, copy, drop), and of 30, 31 what rows bring about. */
public final class RowsTest {
    private static final Due D = new Due("RowsTest");
    private static final int MIN = Integer.MIN_VALUE, MAX = Integer.MAX_VALUE;

    public static void main(String[] args) {
        row();
        set();
        copy();
        drop();
        D.end();
    }

    private static void row() {
        FirstCart x = new FirstCart();
        D.due("row(0, 0, 40)", x.row(0, 0, 40), 40);
        D.due("row(7, 2, 0)", x.row(7, 2, 0), 0);
        D.due("count of rows", x.count(0), 2);
        D.due("row(8, 0, 1)", x.row(8, 0, 1), Due.BAD);
        D.due("row(-1, 0, 1)", x.row(-1, 0, 1), Due.BAD);
        D.due("row(0, -1, 1)", x.row(0, -1, 1), Due.BAD);
        D.due("row(0, 3, 1)", x.row(0, 3, 1), Due.BAD);
        D.due("row(0, 0, 41)", x.row(0, 0, 41), Due.BAD);
        D.due("BAD comes ahead of SIZE", x.row(0, 3, -1), Due.BAD);
        D.due("status is not moved by BAD", x.status(), 0);
        D.due("row(0, 1, -1)", x.row(0, 1, -1), Due.SIZE);
        D.due("row(0, 1, MIN)", x.row(0, 1, MIN), Due.SIZE);
        D.due("status", x.status(), 4);
        D.due("found: the row stays, of bytes", x.set(0, 39, 128), -128);
        D.due("status", x.status(), 0);
        D.due("in place of what is there", x.row(0, 1, 3), 3);
        D.due("of shorts now", x.set(0, 1, 128), 128);
        D.due("only three", x.set(0, 3, 1), Due.PLACE);
        x.row(1, 1, 3);
        x.copy(1, 0, 0, 0, 0);
        D.due("row again", x.row(0, 1, 40), 40);
        x.row(2, 1, 40);
        x.set(2, 1, 9);
        D.due("items are 0 at first: as a row told", firstOf(x), 0);
        D.due("count of rows", x.count(0), 4);
    }

    /** Whether row 0's items are 0: judged by a pass in which cart 0 pays in all that is told. */
    private static int firstOf(FirstCart x) {
        Due.pass(x, "toll 1 1 1 1 1 1;cart blind 0 0 0;");
        return x.judge(0, 28) == 1 ? 0 : 1;
    }

    private static void set() {
        FirstCart x = new FirstCart();
        D.due("missing", x.set(3, 0, 1), Due.NULL);
        D.due("missing comes ahead of the place", x.set(3, -5, 1), Due.NULL);
        D.due("status", x.status(), 1);
        D.due("set(8, ..)", x.set(8, 0, 1), Due.BAD);
        D.due("set(-1, ..)", x.set(-1, 0, 1), Due.BAD);
        D.due("status stays", x.status(), 1);
        x.row(3, 0, 2);
        D.due("byte 127", x.set(3, 0, 127), 127);
        D.due("byte 128", x.set(3, 0, 128), -128);
        D.due("byte 256", x.set(3, 1, 256), 0);
        D.due("byte MIN", x.set(3, 1, MIN), 0);
        D.due("byte MAX", x.set(3, 1, MAX), -1);
        D.due("place 2", x.set(3, 2, 1), Due.PLACE);
        D.due("place -1", x.set(3, -1, 1), Due.PLACE);
        D.due("place MIN", x.set(3, MIN, 1), Due.PLACE);
        D.due("place MAX", x.set(3, MAX, 1), Due.PLACE);
        D.due("status", x.status(), 2);
        x.row(4, 1, 1);
        D.due("short 32767", x.set(4, 0, 32767), 32767);
        D.due("short 32768", x.set(4, 0, 32768), -32768);
        D.due("short 65537", x.set(4, 0, 65537), 1);
        D.due("status", x.status(), 0);
        x.row(5, 2, 1);
        D.due("int MIN", x.set(5, 0, MIN), MIN);
        D.due("int MAX", x.set(5, 0, MAX), MAX);
        x.row(6, 2, 0);
        D.due("no place in an empty row", x.set(6, 0, 0), Due.PLACE);
    }

    private static void copy() {
        FirstCart x = new FirstCart();
        x.row(0, 0, 14);
        x.row(1, 0, 12);
        x.row(2, 1, 12);
        D.due("BAD row a", x.copy(8, 0, 0, 0, 1), Due.BAD);
        D.due("BAD row b", x.copy(0, 0, -1, 0, 1), Due.BAD);
        D.due("BAD comes ahead of NULL", x.copy(3, 0, 8, 0, 1), Due.BAD);
        D.due("NULL a", x.copy(3, 0, 0, 0, 1), Due.NULL);
        D.due("NULL b, ahead of PLACE", x.copy(0, -1, 3, 0, 1), Due.NULL);
        D.due("STORE, ahead of PLACE", x.copy(0, -1, 2, 0, 1), Due.STORE);
        D.due("status", x.status(), 5);
        D.due("STORE even of none", x.copy(2, 0, 1, 0, 0), Due.STORE);
        D.due("i below 0", x.copy(0, -1, 1, 0, 1), Due.PLACE);
        D.due("j below 0", x.copy(0, 0, 1, -1, 1), Due.PLACE);
        D.due("n below 0", x.copy(0, 0, 1, 0, -1), Due.PLACE);
        D.due("status", x.status(), 2);
        D.due("beyond a's end", x.copy(0, 3, 1, 0, 12), Due.PLACE);
        D.due("beyond b's end", x.copy(0, 0, 1, 1, 12), Due.PLACE);
        D.due("sums that wrap", x.copy(0, MAX, 1, MAX, MAX), Due.PLACE);
        D.due("a sum that wraps", x.copy(0, 1, 1, 1, MAX), Due.PLACE);
        D.due("none, at both ends", x.copy(0, 14, 1, 12, 0), 0);
        D.due("none, behind an end", x.copy(0, 15, 1, 12, 0), Due.PLACE);
        D.due("status", x.status(), 2);
        whatComes(x);
    }

    /** What a row holds is read by judging it: cart c pays in hour c alone. */
    private static void whatComes(FirstCart x) {
        Due.pass(x, "toll 1 1 1 1 1 1;cart blind 0 0 0;cart blind 1 0 0;cart blind 2 0 0;cart blind 3 0 0;");
        for (int i = 0; i < 14; i++) {
            x.set(0, i, i < 4 ? i : -1);
        }
        D.due("copy all", x.copy(0, 0, 1, 0, 12), 12);
        D.due("as told", x.judge(1, 0), Due.NONE);
        x.drop(7);
        D.due("to itself, on", x.copy(0, 0, 0, 2, 12), 12);
        D.due("status", x.status(), 0);
        D.due("as they were ahead", x.judge(0, 2), Due.NONE);
        D.due("to itself, back", x.copy(0, 2, 0, 0, 12), 12);
        D.due("as they were ahead", x.judge(0, 0), Due.NONE);
        D.due("the last two stay -1", x.judge(0, 2), 0);
        D.due("one item", x.copy(1, 3, 1, 2, 1), 1);
        D.due("only that one is another", x.judge(1, 0), 2);
    }

    private static void drop() {
        FirstCart x = new FirstCart();
        D.due("drop(8)", x.drop(8), Due.BAD);
        D.due("drop(-1)", x.drop(-1), Due.BAD);
        D.due("status", x.status(), 0);
        D.due("drop of none", x.drop(0), Due.NULL);
        D.due("status", x.status(), 1);
        x.row(0, 1, 17);
        x.row(1, 1, 0);
        x.drop(7);
        D.due("drop(0)", x.drop(0), 17);
        D.due("status", x.status(), 0);
        D.due("count of rows", x.count(0), 1);
        D.due("missing then", x.set(0, 0, 0), Due.NULL);
        D.due("twice", x.drop(0), Due.NULL);
        D.due("an empty one", x.drop(1), 0);
        D.due("count of rows", x.count(0), 0);
        x.row(0, 0, 12);
        Due.pass(x, "toll 1 1 1 1 1 1;cart blind 0 0 0;");
        D.due("a row made anew is 0", x.judge(0, 0), 1);
    }
}
