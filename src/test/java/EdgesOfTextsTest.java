import java.io.IOException;

/** Promises 6 to 8: what the document says of the edges of feed, pass, fault. */
public final class EdgesOfTextsTest {
    /** 17 bytes. */
    private static final String TOLL = "toll 1 2 3 4 5 6;";
    /** 14 bytes. */
    private static final String GO = "cart go 0 0 0;";

    private final Edges e = new Edges("EdgesOfTextsTest");

    private EdgesOfTextsTest() throws IOException {
    }

    public static void main(String[] args) throws IOException {
        EdgesOfTextsTest t = new EdgesOfTextsTest();
        t.feed();
        t.tapeIsFull();
        t.tokens();
        t.spaces();
        t.toll();
        t.carts();
        t.cartNumbers();
        t.whereTheFaultIs();
        t.whichFaultItIs();
        t.whatStays();
        t.whatIsAnew();
        t.latestFault();
        t.e.end(6, 7, 8);
    }

    private void feed() {
        e.edge(6, "The lowest n bytes of w (1 to 8)");
        e.on(new FirstCart(), "feed(0, 0) = BAD", "feed(0, 9) = BAD", "feed(0, -1) = BAD", "feed(0, MIN) = BAD",
            "feed(0, MAX) = BAD", "count(6) = 0", "feed(0, 1) = 1", "feed(0, 8) = 9", "count(6) = 9");
        // 'toll' is the lowest half of the word, with letters above it that must not come.
        FirstCart x = new FirstCart();
        e.on(x, "feed(0x7a7a7a7a746f6c6c, 4) = 4");
        Due.feed(x, TOLL.substring(4));
        e.on(x, "pass() = 0");
        e.edge(6, "the highest of them first");
        // 'toll 1 2', ' 3 4 5 6', ';'
        e.on(new FirstCart(), "feed(0x746f6c6c20312032, 8) = 8", "feed(0x2033203420352036, 8) = 16",
            "feed(0x3b, 1) = 17", "pass() = 0");
        e.edge(6, "come behind the tape: how many it has");
        x = new FirstCart();
        e.on(x, "feed(0x746f6c, 3) = 3", "feed(0x6c, 1) = 4");
        Due.feed(x, TOLL.substring(4));
        e.on(x, "count(6) = 17", "pass() = 0", "count(6) = 0", "feed(0x20, 1) = 1");
        e.edge(6, "BAD (a number is not as told");
        // A byte may be anything: only n is looked at.
        e.on(new FirstCart(), "feed(-1, 8) = 8", "feed(0x7fffffffffffffff, 8) = 16", "pass() = -1000100");
    }

    private void tapeIsFull() {
        e.edge(6, "THE TAPE has at most 400 bytes");
        FirstCart x = new FirstCart();
        e.on(x, "49 times feed(0x2020202020202020, 8)", "count(6) = 392", "feed(0x2020202020202020, 8) = 400",
            "feed(0x20, 1) = FULL", "feed(0, 8) = FULL", "count(6) = 400");
        e.on(x, "pass() = -1000500", "count(6) = 0", "feed(0x20, 1) = 1");
        e.edge(6, "FULL: none comes.");
        x = new FirstCart();
        e.on(x, "47 times feed(0x2020202020202020, 8)", "feed(0x20202020202020, 7) = 383");
        Due.feed(x, TOLL.substring(0, 16));
        e.on(x, "count(6) = 399", "feed(0x3b20, 2) = FULL", "feed(0x3b20202020202020, 8) = FULL", "count(6) = 399",
            "feed(0x3b, 1) = 400", "feed(0x3b, 1) = FULL", "pass() = 0", "count(6) = 0");
        e.edge(6, "BAD: n; FULL");
        e.on(new FirstCart(), "50 times feed(0x2020202020202020, 8)", "feed(0, 0) = BAD", "feed(0, 9) = BAD",
            "feed(0, 1) = FULL", "status() = 0");
    }

    private void tokens() {
        e.edge(7, "NAMES (letters a to z)");
        e.faulty("Toll 1 2 3 4 5 6;", 0, 1);
        e.faulty("toll`1 2 3 4 5 6;", 4, 1);
        e.faulty("toll{1 2 3 4 5 6;", 4, 1);
        e.faulty("tollS 1 2 3 4 5 6;", 4, 1);
        e.faulty("tolla 1 2 3 4 5 6;", 0, 1);
        e.faulty("tollz 1 2 3 4 5 6;", 0, 1);
        e.faulty("tol 1 2 3 4 5 6;", 0, 1);
        e.faulty("tol", 0, 1);
        e.faulty("tomm 1 2 3 4 5 6;", 0, 1);
        e.faulty("doll 1 2 3 4 5 6;", 0, 1);
        e.edge(7, "NUMBERS (figures, 3 at most)");
        e.read("toll 000 001 099 9 09 99;", 0);
        e.faulty("toll 1 2 3 4 5 0000;", 15, 1);
        e.faulty("toll 0001 2 3 4 5 6;", 5, 1);
        e.faulty("toll 1 2 3 4 5 /;", 15, 1);
        e.faulty("toll 1 2 3 4 5 :;", 15, 1);
        e.faulty("toll 1 2 3 4 5 9/;", 16, 1);
        e.faulty("toll 1 2 3 4 5 9:;", 16, 1);
        e.faulty("toll 1 2 3 4 5 -6;", 15, 1);
        e.faulty("toll 1 2 3 4 5 +6;", 15, 1);
        e.edge(7, "SIGNS ;");
        e.faulty("toll 1 2 3 4 5 6,", 16, 1);
        e.faulty("toll 1 2 3 4 5 6:", 16, 1);
        e.faulty("toll 1 2 3 4 5 6<", 16, 1);
        e.faulty(TOLL + (char) ('z' + 128), 17, 1);
    }

    private void spaces() {
        e.edge(7, "bytes 32 and 10 ahead of, between, behind these, as many as wanted");
        e.read(" \n toll\n1  2\n\n3 4 5 6 \n ; \n\ncart\n go 0\n0 0\n;\n \n", 1);
        e.read("\n" + TOLL + "\n", 0);
        e.faulty("\t" + TOLL, 0, 1);
        e.faulty("toll\t1 2 3 4 5 6;", 4, 1);
        e.faulty(TOLL + "\r\n", 17, 1);
        e.faulty(TOLL + (char) 0, 17, 1);
        e.faulty(TOLL + (char) 9, 17, 1);
        e.faulty(TOLL + (char) 11, 17, 1);
        e.faulty(TOLL + (char) 31, 17, 1);
        e.faulty(TOLL + (char) 33, 17, 1);
        e.faulty(TOLL + (char) 160, 17, 1);
        e.faulty(TOLL + (char) 138, 17, 1);
        e.edge(7, "(none is needed where one ends without)");
        FirstCart x = e.read("toll1 2 3 4 5 6;cart go11 20 10;cart blind0 1 2;", 2);
        e.on(x, "cart(0, 0) = 11", "cart(0, 1) = 20", "cart(0, 2) = 10", "kind(1) = 5", "cart(1, 0) = 0");
        // Where one does not end without, two become one.
        e.faulty(TOLL + "cartgo 0 0 0;", 17, 1);
        e.faulty("toll 1 2 3 4 56;", 15, 1);
        e.faulty("toll 1 2 3 4567;", 11, 1);
    }

    private void toll() {
        e.edge(7, "pass: toll { cart }.");
        e.read(TOLL, 0);
        e.read(TOLL + GO, 1);
        e.faulty("", 0, 1);
        e.faulty(GO, 0, 1);
        e.faulty(GO + TOLL, 0, 1);
        e.faulty(TOLL + TOLL, 17, 1);
        e.faulty(TOLL + GO + TOLL, 31, 1);
        e.faulty(TOLL + ";", 17, 1);
        e.faulty(TOLL + "1", 17, 1);
        e.edge(7, "'toll' and 6 NUMBERS (0 to 99) ';'");
        FirstCart x = e.read("toll 0 99 0 99 0 99;", 0);
        e.on(x, "shares(1, 0) = 0", "shares(2, 0) = 50", "shares(3, 0) = 0", "shares(4, 0) = 25", "shares(5, 0) = 0",
            "shares(6, 0) = 17");
        e.faulty("toll;", 4, 1);
        e.faulty("toll 1 2 3 4 5;", 14, 1);
        e.faulty("toll 1 2 3 4 5 6 7;", 17, 1);
        e.faulty("toll 1 2 3 4 5 6", 16, 1);
        e.faulty("toll 100 2 3 4 5 6;", 5, 2);
        e.faulty("toll 1 100 3 4 5 6;", 7, 2);
        e.faulty("toll 1 2 100 4 5 6;", 9, 2);
        e.faulty("toll 1 2 3 100 5 6;", 11, 2);
        e.faulty("toll 1 2 3 4 100 6;", 13, 2);
        e.faulty("toll 1 2 3 4 5 100;", 15, 2);
        e.faulty("toll 1 2 3 4 5 999;", 15, 2);
    }

    private void carts() {
        e.edge(7, "CARTS 0 .. 5, 6 at most");
        FirstCart x = e.read(TOLL + GO + GO + GO + GO + GO + "cart back 11 20 11;", 6);
        e.on(x, "count(1) = 6", "kind(5) = 3", "cart(5, 0) = 11", "cart(5, 1) = 20", "cart(5, 2) = 11",
            "cart(6, 0) = BAD");
        e.faulty(TOLL + GO + GO + GO + GO + GO + GO + GO, 101, 3);
        e.edge(7, "how many CARTS there are");
        StringBuilder text = new StringBuilder(TOLL);
        for (int carts = 0; carts <= 6; carts++) {
            e.on(e.read(text.toString(), carts), "count(1) = " + carts, "cart(" + carts + ", 0) = BAD");
            text.append(GO);
        }
        e.edge(7, "SORT: 'wait' | 'go' | 'form' | 'back' | 'blind'");
        x = e.read(TOLL + "cart wait 0 0 0;cart go 0 0 0;cart form 0 0 0;cart back 0 0 0;cart blind 0 0 0;", 5);
        e.on(x, "kind(0) = 1", "kind(1) = 4", "kind(2) = 2", "kind(3) = 3", "kind(4) = 5");
        e.faulty(TOLL + "cart cart 0 0 0;", 22, 1);
        e.faulty(TOLL + "cart goes 0 0 0;", 22, 1);
        e.faulty(TOLL + "cart g 0 0 0;", 22, 1);
        e.faulty(TOLL + "cart waits 0 0 0;", 22, 1);
        e.faulty(TOLL + "cart blin 0 0 0;", 22, 1);
        e.faulty(TOLL + "cart Go 0 0 0;", 22, 1);
        e.faulty(TOLL + "cart 4 0 0 0;", 22, 1);
        e.faulty(TOLL + "cart ; 0 0 0;", 22, 1);
        e.faulty(TOLL + "Cart go 0 0 0;", 17, 1);
        e.faulty(TOLL + "car go 0 0 0;", 17, 1);
        e.faulty(TOLL + "carts go 0 0 0;", 17, 1);
    }

    private void cartNumbers() {
        e.edge(7, "0 to 11; 0 to 20; 0 to 11");
        FirstCart x = e.read(TOLL + "cart go 11 20 11;" + GO, 2);
        e.on(x, "cart(0, 0) = 11", "cart(0, 1) = 20", "cart(0, 2) = 11", "cart(1, 0) = 0", "cart(1, 1) = 0",
            "cart(1, 2) = 0");
        e.faulty(TOLL + "cart go 12 20 11;", 25, 2);
        e.faulty(TOLL + "cart go 11 21 11;", 28, 2);
        e.faulty(TOLL + "cart go 11 20 12;", 31, 2);
        e.faulty(TOLL + "cart go 999 0 0;", 25, 2);
        e.edge(7, "cart: 'cart' SORT COME HASTE PATIENCE ';'");
        x = e.read(TOLL + "cart go 1 2 3;", 1);
        e.on(x, "cart(0, 0) = 1", "cart(0, 1) = 2", "cart(0, 2) = 3");
        e.faulty(TOLL + "cart;", 21, 1);
        e.faulty(TOLL + "cart go;", 24, 1);
        e.faulty(TOLL + "cart go 1;", 26, 1);
        e.faulty(TOLL + "cart go 1 2;", 28, 1);
        e.faulty(TOLL + "cart go 1 2 3 4;", 31, 1);
        e.faulty(TOLL + "cart go 1 2 3 cart", 31, 1);
        e.faulty(TOLL + "cart go go 1 2 3;", 25, 1);
        e.faulty(TOLL + "cart 1 go 2 3;", 22, 1);
    }

    private void whereTheFaultIs() {
        e.edge(7, "-1000100 less the place of a FAULT");
        e.faulty("?", 0, 1);
        e.faulty(" ?", 1, 1);
        e.faulty(" ".repeat(399) + "?", 399, 1);
        e.edge(7, "the end: how many bytes there are");
        e.faulty("", 0, 1);
        e.faulty(" ", 1, 1);
        e.faulty("toll", 4, 1);
        e.faulty("toll \n ", 7, 1);
        e.faulty("toll 1 2 3 4 5 6", 16, 1);
        e.faulty(TOLL + "cart", 21, 1);
        e.faulty(TOLL + "cart go", 24, 1);
        e.faulty(TOLL + "cart go 0", 26, 1);
        e.faulty(TOLL + "cart go 0 0 ", 29, 1);
        e.faulty(TOLL + "cart go 0 0 0", 30, 1);
        e.faulty(TOLL + " ".repeat(379) + "cart", 400, 1);
        e.faulty(" ".repeat(400), 400, 1);
        e.edge(7, "the first TOKEN that has one (its first byte)");
        e.faulty("toll 100 100 1000 ?", 5, 2);
        e.faulty("toll 1 ? 100", 7, 1);
        e.faulty("toll 1 100 ?", 7, 2);
        e.faulty(TOLL + "cart mule 99 99 99;", 22, 1);
        e.faulty(TOLL + "cart go 12 21 12 ?", 25, 2);
        e.faulty(TOLL + GO + GO + GO + GO + GO + "cart go 0 0 12;" + GO, 99, 2);
        e.faulty(TOLL + GO + GO + GO + GO + GO + GO + "cart mule 99;", 101, 3);
        e.faulty(TOLL + GO + GO + GO + GO + GO + GO + "cart", 101, 3);
        e.edge(7, "a run of four figures or more, at its first");
        e.faulty("toll 1000 2 3 4 5 6;", 5, 1);
        e.faulty("toll 1 2 3 4 5 12345;", 15, 1);
        e.faulty("toll 1 2 3 4 5 99999999999999999999;", 15, 1);
        e.faulty("1111", 0, 1);
        e.faulty(TOLL + "cart go 0011 0 0;", 25, 1);
        e.faulty(TOLL + "1".repeat(383), 17, 1);
    }

    private void whichFaultItIs() {
        e.edge(7, "of one TOKEN the least");
        // A NUMBER that is too great, and cannot stand there either; a cart that is none.
        e.faulty("100 1 2 3 4 5 6;", 0, 1);
        e.faulty("toll 1 2 3 4 5 6 100;", 17, 1);
        e.faulty(TOLL + "100", 17, 1);
        e.faulty(TOLL + "cart 100 0 0 0;", 22, 1);
        e.faulty("toll 9999 2 3 4 5 6;", 5, 1);
        e.faulty("cart", 0, 1);
        e.faulty(TOLL + GO + GO + GO + GO + GO + "cart go 0 0 0 cart", 101, 1);
        e.edge(7, "1 it cannot stand there, or is none");
        e.faulty("toll toll 1 2 3 4 5 6;", 5, 1);
        e.faulty("toll 1 2 3 ; 4 5 6;", 11, 1);
        e.faulty(TOLL + "@", 17, 1);
        e.edge(7, "2 a NUMBER that is not as told");
        e.faulty("toll 100 2 3 4 5 6;", 5, 2);
        e.faulty(TOLL + "cart go 12 0 0;", 25, 2);
        e.faulty(TOLL + "cart go 0 21 0;", 27, 2);
        e.faulty(TOLL + "cart go 0 0 12;", 29, 2);
        e.edge(7, "3 a cart more than there is room for (its word)");
        String six = TOLL + GO + GO + GO + GO + GO + GO;
        e.faulty(six + GO, 101, 3);
        e.faulty(six + " \n cart", 104, 3);
        e.faulty(six + "carts", 101, 1);
        e.faulty(six + "go", 101, 1);
        e.faulty(six + ";", 101, 1);
        e.faulty(six + "?", 101, 1);
        e.faulty(six + "1", 101, 1);
        e.read(six + " \n ", 6);
    }

    private void whatStays() {
        e.edge(7, "all but the tape, and what fault() tells, stays.");
        FirstCart x = Due.with("10 11 12 13 14 15", "wait 0 1 2", "go 1 1 1");
        e.on(x, "waits(1, 7)", "3 times hour()", "image(1)", "row(2, 0, 3)", "drop(9)", "set(2, 3, 0) = PLACE",
            "ask(0, 1) = 0");
        // The faulty text goes far enough to tell another toll and other carts.
        e.due("pass()", Due.pass(x, "toll 1 1 1 1 1 1;cart blind 5 5 5;cart back 5 5 55;"), -1000148);
        e.on(x, "count(6) = 0", "fault() = 2", "count(0) = 1", "count(1) = 2", "count(2) = 3", "count(3) = 1",
            "count(4) = 4", "count(5) = 10", "kind(0) = 1", "kind(1) = 4", "cart(0, 0) = 0", "cart(0, 3) = 2",
            "cart(0, 4) = 10", "cart(0, 5) = 12", "cart(1, 2) = 7", "cart(1, 3) = NONE", "shares(2, 0) = 6",
            "status() = 2", "trace(0) = 21", "trace(1) = 20", "undo() = 3", "count(3) = 0", "restore(1) = 1",
            "count(2) = 3");
        e.on(new FirstCart(), "pass() = -1000100", "hour() = STATE", "count(1) = 0");
        e.edge(7, "The tape, empty then, is read");
        x = new FirstCart();
        e.due("pass()", Due.pass(x, "toll 1 2 3"), -1000110);
        e.on(x, "count(6) = 0");
        e.due("pass()", Due.pass(x, TOLL), 0);
        e.on(x, "count(6) = 0", "pass() = -1000100");
        // What an earlier, longer text left must not be read behind the end of a shorter one.
        e.due("pass()", Due.pass(x, TOLL + GO), 1);
        e.due("pass()", Due.pass(x, TOLL), 0);
        e.due("pass()", Due.pass(x, "toll 1 2 3 4 5 "), -1000115);
    }

    private void whatIsAnew() {
        e.edge(7, "HOUR 0 is to come, nobody has GONE, no ACT can be undone");
        FirstCart x = Due.with("1 2 3 4 5 6", "blind 0 0 0", "blind 0 0 0");
        e.on(x, "hour() = 3", "waits(1, 1) = STATE", "count(5) = 2", "count(4) = 1");
        e.due("pass()", Due.pass(x, "toll 7 7 7 7 7 7;cart blind 0 0 0;cart wait 1 0 0;"), 2);
        e.on(x, "count(2) = 0", "count(3) = 0", "count(4) = 0", "count(5) = 0", "cart(0, 3) = NONE", "cart(0, 4) = 0",
            "cart(0, 5) = NONE", "undo() = STATE", "waits(1, 0) = 0", "hour() = 1", "cart(0, 4) = 7");
        x = Due.with("1 2 3 4 5 6");
        e.on(x, "12 times hour() = 0", "hour() = FULL");
        e.due("pass()", Due.pass(x, TOLL), 0);
        e.on(x, "12 times hour() = 0", "hour() = FULL");
        e.edge(7, "A PASS that is read stands in place of the one before");
        x = Due.with("1 2 3 4 5 6", "go 1 2 3", "form 4 5 6", "back 7 8 9");
        e.due("pass()", Due.pass(x, "toll 9 9 9 9 9 9;cart blind 3 2 1;"), 1);
        e.on(x, "count(1) = 1", "kind(0) = 5", "cart(0, 0) = 3", "cart(0, 1) = 2", "cart(0, 2) = 1", "kind(1) = BAD",
            "shares(1, 0) = 9");
        // Nothing of six earlier CARTS is left where there are fewer: all is as on a new object.
        x = Due.with("1 2 3 4 5 6", "back 0 20 11", "back 0 20 11", "back 0 20 11", "back 0 20 11", "back 0 20 11", "back 0 20 11");
        e.on(x, "12 times hour()", "book(0, 30)", "goat(0, 5)", "rest(-1)");
        e.due("pass()", Due.pass(x, "toll 10 11 12 13 14 15;cart wait 0 1 0;"), 1);
        for (FirstCart y : new FirstCart[] {x, Due.with("10 11 12 13 14 15", "wait 0 1 0")}) {
            e.on(y, "rest(-1) = 1", "rest(0) = 0", "goat(0, 0) = 1", "goat(0, 3) = 10", "book(0, 2) = 2", "day(0, 1) = 10",
                "best(0, 1) = 10", "waits(0, 5) = 0", "goat(0, 2) = -2", "5 times hour() = 0", "hour() = 1", "6 times hour() = 0",
                "count(3) = 1", "count(5) = 10");
        }
        e.edge(7, "IMAGES and ROWS stay");
        x = Due.with("1 2 3 4 5 6", "go 1 2 3");
        e.on(x, "row(0, 1, 4)", "hour()", "image(0)", "hour()", "image(1)");
        e.due("pass()", Due.pass(x, TOLL), 0);
        e.on(x, "count(0) = 1", "set(0, 3, 200) = 200", "restore(0) = 1", "count(2) = 1", "count(1) = 1",
            "restore(1) = 1", "count(2) = 2");
    }

    private void latestFault() {
        e.edge(8, "0 before one");
        e.on(new FirstCart(), "fault() = 0");
        FirstCart x = e.read(TOLL, 0);
        e.on(x, "fault() = 0", "row(0, 0, -1) = SIZE", "hour()", "feed(0, 9) = BAD", "fault() = 0");
        e.edge(8, "The number of the latest FAULT");
        x = new FirstCart();
        e.due("pass()", Due.pass(x, "toll 100"), -1000105);
        e.on(x, "fault() = 2", "fault() = 2", "pass() = -1000100", "fault() = 1");
        e.due("pass()", Due.pass(x, TOLL + GO + GO + GO + GO + GO + GO + GO), -1000201);
        e.on(x, "fault() = 3");
        // A text without one leaves what the latest one was.
        e.due("pass()", Due.pass(x, TOLL), 0);
        e.on(x, "fault() = 3", "image(0)", "restore(0)", "fault() = 3");
    }
}
