/** Promises 6 to 8: feed, pass, fault. */
public final class TextsTest {
    private static final Due D = new Due("TextsTest");
    private static final String TOLL = "toll 1 2 3 4 5 6;";

    public static void main(String[] args) {
        feed();
        read();
        faults();
        whatStays();
        D.end();
    }

    private static void feed() {
        FirstCart x = new FirstCart();
        D.due("feed(.., 0)", x.feed(5, 0), Due.BAD);
        D.due("feed(.., 9)", x.feed(5, 9), Due.BAD);
        D.due("feed(.., -1)", x.feed(5, -1), Due.BAD);
        D.due("feed(.., MIN)", x.feed(5, Integer.MIN_VALUE), Due.BAD);
        for (int i = 1; i <= 49; i++) {
            D.due("feed 8", x.feed(0x2020202020202020L, 8), 8 * i);
        }
        D.due("feed 7", x.feed(0x20202020202020L, 7), 399);
        D.due("two more are too many", x.feed(0x3b3b, 2), Due.FULL);
        D.due("BAD comes ahead of FULL", x.feed(0, 9), Due.BAD);
        D.due("none came", x.count(6), 399);
        D.due("one more", x.feed(' ', 1), 400);
        D.due("full", x.feed(' ', 1), Due.FULL);
        D.due("end of 400 bytes", x.pass(), -1000500);
        D.due("empty then", x.count(6), 0);
        D.due("status is not moved", x.status(), 0);
        D.due("only the lowest bytes come", x.feed(0x7a7a7a7a746f6c6cL, 4), 4);
        Due.feed(x, " 1 2 3 4 5 6;");
        D.due("read", x.pass(), 0);
        D.due("bytes above 127", x.feed(-1L, 8), 8);
        D.due("no token", x.pass(), -1000100);
    }

    private static void read() {
        FirstCart x = new FirstCart();
        D.due("no space needed", Due.pass(x, "toll1 2 3 4 5 6;cart go0 1 2;cart blind11 20 11;"), 2);
        D.due("come", x.cart(1, 0), 11);
        D.due("haste", x.cart(1, 1), 20);
        D.due("patience", x.cart(1, 2), 11);
        D.due("haste", x.cart(0, 1), 1);
        D.due("as many as wanted", Due.pass(x, " \n toll\n1  2 3 4 5 6 \n;\n\ncart\nback 1 1 1 ; \n"), 1);
        D.due("kind", x.kind(0), 3);
        D.due("figures ahead", Due.pass(x, "toll 099 00 0 000 1 99;cart wait 011 020 007;"), 1);
        D.due("patience", x.cart(0, 2), 7);
        D.due("toll for 1", x.shares(1, 0), 99);
        D.due("toll for 6", x.shares(6, 0), 17);
        D.due("six carts", Due.pass(x, TOLL + "cart go 0 0 0;cart wait 0 0 0;cart form 0 0 0;"
            + "cart back 0 0 0;cart blind 0 0 0;cart go 0 0 0;"), 6);
        int[] kinds = {4, 1, 2, 3, 5, 4};
        for (int c = 0; c < 6; c++) {
            D.due("kind(" + c + ")", x.kind(c), kinds[c]);
        }
        D.due("no fault so far", x.fault(), 0);
        D.due("a pass of no carts", Due.pass(x, TOLL), 0);
        D.due("carts", x.count(1), 0);
        D.due("cart(0, 0)", x.cart(0, 0), Due.BAD);
    }

    private static void fault(String text, int place, int number) {
        FirstCart x = new FirstCart();
        D.due("pass of '" + text + "'", Due.pass(x, text), -1000100 - place);
        D.due("fault of '" + text + "'", x.fault(), number);
    }

    private static void faults() {
        fault("", 0, 1);
        fault(" \n ", 3, 1);
        fault("tol 1", 0, 1);
        fault("tolls 1", 0, 1);
        fault("tollz 1", 0, 1);
        fault("toll{1", 4, 1);
        fault("toll`1", 4, 1);
        fault(" Toll", 1, 1);
        fault(";", 0, 1);
        fault("toll ;", 5, 1);
        fault("toll 1 2 3 4 5;", 14, 1);
        fault("toll 1 2 3 4 5 6 7;", 17, 1);
        fault("toll 1 2 3 4 5 100;", 15, 2);
        fault("toll 1 2 3 4 5 999 ?", 15, 2);
        fault("toll 1 2 3 4 5 1000;", 15, 1);
        fault("toll 1 2 3 4 5 0000;", 15, 1);
        fault("toll 1 2 3 4 5 -6;", 15, 1);
        fault("toll\t1 2 3 4 5 6;", 4, 1);
        fault("toll 1 2 3 4 5 6 ", 17, 1);
        fault(TOLL + "\r", 17, 1);
        fault(TOLL + ";", 17, 1);
        fault(TOLL + "7", 17, 1);
        fault(TOLL + "toll", 17, 1);
        fault(TOLL + "carts go 0 0 0;", 17, 1);
        fault(TOLL + "cartgo 0 0 0;", 17, 1);
        fault(TOLL + "cart ", 22, 1);
        fault(TOLL + "cart cart 0 0 0;", 22, 1);
        fault(TOLL + "cart 0 0 0;", 22, 1);
        fault(TOLL + "cart goo 0 0 0;", 22, 1);
        fault(TOLL + "cart g 0 0 0;", 22, 1);
        fault(TOLL + "cart go ; 0 0;", 25, 1);
        fault(TOLL + "cart go 12 21 12;", 25, 2);
        fault(TOLL + "cart go 11 21 12;", 28, 2);
        fault(TOLL + "cart go 11 20 12;", 31, 2);
        fault(TOLL + "cart go 11 20 11 1;", 34, 1);
        fault(TOLL + "cart go 1111 20 11;", 25, 1);
        String six = TOLL + "cart go 0 0 0;cart go 0 0 0;cart go 0 0 0;cart go 0 0 0;cart go 0 0 0;cart go 0 0 0;";
        fault(six + "cart", 101, 3);
        fault(six + " cart mule", 102, 3);
        fault(six + "cat", 101, 1);
        fault(six + ";", 101, 1);
    }

    private static void whatStays() {
        FirstCart x = Due.with("1 2 3 4 5 6", "go 0 1 2", "wait 1 1 1");
        D.due("before one", x.fault(), 0);
        x.waits(0, 5);
        x.hour();
        D.due("a fault", Due.pass(x, "toll 1 2 3 4 5 100;"), -1000115);
        D.due("its number", x.fault(), 2);
        D.due("the tape is empty", x.count(6), 0);
        D.due("carts stay", x.count(1), 2);
        D.due("hours stay", x.count(2), 1);
        D.due("acts stay", x.count(4), 2);
        D.due("patience stays", x.cart(0, 2), 5);
        D.due("the toll stays", x.shares(6, 0), 1);
        x.image(1);
        x.row(2, 0, 3);
        D.due("read", Due.pass(x, "toll 9 9 9 9 9 9;cart form 3 2 1;"), 1);
        D.due("the number of the latest one", x.fault(), 2);
        D.due("hour 0 is to come", x.count(2), 0);
        D.due("nobody has gone", x.count(3), 0);
        D.due("no act", x.count(4), 0);
        D.due("none to undo", x.undo(), Due.STATE);
        D.due("rows stay", x.count(0), 1);
        D.due("images stay", x.restore(1), 1);
        D.due("as it was", x.cart(0, 2), 5);
        D.due("another fault", Due.pass(x, "x"), -1000100);
        D.due("its number", x.fault(), 1);
    }
}
