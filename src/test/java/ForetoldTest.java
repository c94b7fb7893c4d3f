/** Promises 13 to 23: day, judge, best, rest, thought, two, shares, size, book, ford, goat. */
public final class ForetoldTest {
    private static final Due D = new Due("ForetoldTest");
    private static final int MIN = Integer.MIN_VALUE, MAX = Integer.MAX_VALUE;

    public static void main(String[] args) {
        day();
        judge();
        best();
        rest();
        thought();
        two();
        shares();
        size();
        book();
        ford();
        goat();
        D.end();
    }

    private static void day() {
        FirstCart x = Due.with("10 11 12 13 14 15", "wait 2 3 4", "go 0 1 5", "back 1 2 0");
        Due.hours(x, 12);
        x.undo();
        D.due("as if nobody had gone: when", x.day(0, 0), 5);
        D.due("cost", x.day(0, 1), 9);
        D.due("pays", x.day(0, 2), 0);
        D.due("when", x.day(1, 0), 5);
        D.due("pays for all three", x.day(1, 2), 12);
        D.due("cost", x.day(1, 1), 17);
        D.due("cost", x.day(2, 1), 8);
        D.due("what = 3", x.day(0, 3), Due.BAD);
        D.due("what = -1", x.day(0, -1), Due.BAD);
        D.due("cart 3", x.day(3, 0), Due.BAD);
        D.due("cart -1", x.day(-1, 0), Due.BAD);
        D.due("nothing changes", x.count(2), 11);
        x = Due.with("10 11 12 13 14 15", "wait 2 3 4", "go 0 1 5");
        x.waits(0, 0);
        D.due("by the patience that is", x.day(0, 0), 2);
    }

    private static void judge() {
        FirstCart x = Due.with("0 0 0 0 0 0", "wait 2 3 4", "go 0 1 5", "back 9 2 0");
        x.row(0, 0, 13);
        x.row(1, 2, 11);
        for (int i = 0; i < 13; i++) {
            x.set(0, i, -1);
        }
        D.due("row 8", x.judge(8, 0), Due.BAD);
        D.due("row -1", x.judge(-1, 0), Due.BAD);
        D.due("missing", x.judge(2, 99), Due.NULL);
        D.due("status", x.status(), 1);
        D.due("eleven items", x.judge(1, 0), Due.PLACE);
        D.due("i = 2", x.judge(0, 2), Due.PLACE);
        D.due("i = -1", x.judge(0, -1), Due.PLACE);
        D.due("i = MAX", x.judge(0, MAX), Due.PLACE);
        D.due("i = MIN", x.judge(0, MIN), Due.PLACE);
        D.due("status", x.status(), 2);
        D.due("somebody paid in hour 5, a toll of 0", x.judge(0, 1), 5);
        D.due("status", x.status(), 0);
        x.set(0, 6, 1);
        D.due("hour 11", x.judge(0, 1), 11);
        x.set(0, 12, 2);
        D.due("all as it is", x.judge(0, 1), Due.NONE);
        D.due("one hour early", x.judge(0, 0), 5);
        x.set(0, 6, 0);
        D.due("another one", x.judge(0, 1), 5);
        x.set(0, 1, 0);
        D.due("the first wrong one", x.judge(0, 1), 0);
        x.drop(7);
        x.set(0, 12, 3);
        x.drop(7);
        D.due("no cart, though an earlier one is wrong", x.judge(0, 1), Due.BAD);
        D.due("status stays", x.status(), 1);
        x.set(0, 12, -2);
        D.due("no cart", x.judge(0, 1), Due.BAD);
        D.due("outside the twelve it may be", x.judge(0, 0), 1);
        x.set(0, 0, 3);
        D.due("no cart, at the first place", x.judge(0, 0), Due.BAD);
        D.due("no act", x.count(4), 0);
    }

    private static void best() {
        FirstCart x = Due.with("20 22 24 26 28 30", "wait 0 6 11", "wait 0 6 11", "wait 0 1 2");
        D.due("behind the third", x.best(0, 0), 3);
        D.due("cost", x.best(0, 1), 12);
        D.due("the third, at the end", x.best(2, 0), 11);
        D.due("cost", x.best(2, 1), 11);
        D.due("nothing changes", x.cart(0, 2), 11);
        D.due("what = 2", x.best(0, 2), Due.BAD);
        D.due("what = -1", x.best(0, -1), Due.BAD);
        D.due("cart 3", x.best(3, 0), Due.BAD);
        D.due("cart -1", x.best(-1, 0), Due.BAD);
        x = Due.with("20 22 24 26 28 30", "go 3 0 7", "blind 4 2 9");
        D.due("of several the least: haste 0", x.best(0, 0), 0);
        D.due("cost", x.best(0, 1), 20);
        D.due("a blind one", x.best(1, 0), 0);
        x = Due.with("20 22 24 26 28 30", "go 3 4 7", "go 4 1 0");
        D.due("going along does not pay", x.best(0, 0), 0);
        D.due("to wait for it does not either", x.best(0, 1), 20);
        x = Due.with("20 30 24 26 28 30", "wait 3 4 7", "go 4 1 0");
        D.due("the other one pays", x.best(0, 0), 2);
        D.due("an hour", x.best(0, 1), 4);
    }

    private static void rest() {
        FirstCart x = Due.with("20 22 24 26 28 30");
        D.due("no cart", x.rest(-1), 1);
        D.due("rest(0)", x.rest(0), Due.BAD);
        D.due("rest(-2)", x.rest(-2), Due.BAD);
        x = Due.with("20 30 24 26 28 30", "wait 3 4 7", "blind 4 1 0");
        D.due("two rounds", x.rest(-1), 2);
        D.due("patience", x.rest(0), 2);
        D.due("patience", x.rest(1), 0);
        x.waits(0, 2);
        D.due("one round: nobody's changes", x.rest(-1), 1);
        D.due("it stays", x.cart(0, 2), 2);
        D.due("acts", x.count(4), 1);
        x = Due.with("99 99 99 99 99 99", "wait 0 0 11", "wait 0 0 11");
        D.due("without an end", x.rest(-1), Due.NONE);
        // Round 1 brings both to 0; each later one to an hour more, and behind 11 to 0 again.
        D.due("so far", x.rest(0), 7);
        D.due("so far", x.rest(1), 7);
        D.due("cart 2", x.rest(2), Due.BAD);
    }

    private static void thought() {
        FirstCart x = Due.with("20 22 24 26 28 30", "wait 1 4 7", "go 4 1 0", "back 0 0 0");
        D.due("hour 1", x.thought(0, 1), 1);
        D.due("hour 3", x.thought(0, 3), 4);
        D.due("with the other one", x.thought(0, 4), 4096 - 8);
        D.due("never", x.thought(0, 5), 0);
        D.due("ahead of its coming", x.thought(0, 0), 0);
        D.due("it goes with them whatever it thinks", x.thought(2, 4), 4095);
        D.due("all that last to the end", x.thought(1, 11), 4096 - 128);
        D.due("hour 12", x.thought(0, 12), Due.BAD);
        D.due("hour -1", x.thought(0, -1), Due.BAD);
        D.due("cart 3", x.thought(3, 0), Due.BAD);
        D.due("cart -1", x.thought(-1, 0), Due.BAD);
        D.due("nothing changes", x.cart(0, 2), 7);
    }

    private static void two() {
        FirstCart x = Due.with("90 20 1 1 1 1", "wait 0 3 0", "go 5 20 0", "back 0 0 0", "form 9 6 0", "blind 0 19 0");
        // The second one would rather pay 20 than lose an hour's 20: so the first one waits.
        D.due("the hour", x.two(0, 1, 4, 0), 4);
        D.due("who", x.two(0, 1, 4, 1), 1);
        for (int h = 0; h < 11; h++) {
            D.due("in each hour at once", x.two(0, 1, h, 0), h);
            D.due("the second one", x.two(0, 1, h, 1), 1);
        }
        D.due("in hour 11 the first one", x.two(0, 1, 11, 1), 0);
        D.due("the hour", x.two(0, 1, 11, 0), 11);
        // An hour costs the second one 19 only: he waits, as the first one goes in the next at the latest.
        D.due("hour 10", x.two(0, 4, 10, 1), 0);
        D.due("who in hour 9", x.two(0, 4, 9, 1), 0);
        D.due("haste 0 goes at once, of like ones", x.two(2, 0, 3, 0), 3);
        D.due("who", x.two(2, 0, 3, 1), 2);
        D.due("what = 2", x.two(0, 1, 0, 2), Due.BAD);
        D.due("what = -1", x.two(0, 1, 0, -1), Due.BAD);
        D.due("hour 12", x.two(0, 1, 12, 0), Due.BAD);
        D.due("hour -1", x.two(0, 1, -1, 0), Due.BAD);
        D.due("alike", x.two(1, 1, 0, 0), Due.BAD);
        D.due("cart 5", x.two(0, 5, 0, 0), Due.BAD);
        D.due("cart -1", x.two(-1, 0, 0, 0), Due.BAD);
        x = Due.with("90 0 1 1 1 1", "wait 0 3 0", "go 5 20 0");
        D.due("for nothing he goes at once", x.two(0, 1, 0, 1), 0);
        x = Due.with("90 1 1 1 1 1", "wait 0 3 0", "go 5 1 0");
        D.due("for 1 the first one waits", x.two(0, 1, 10, 1), 1);
    }

    private static void shares() {
        FirstCart x = Due.with("10 21 15 17 0 99");
        D.due("of 1", x.shares(1, 0), 10);
        D.due("one alone holds", x.shares(1, -1), 1);
        D.due("of 2", x.shares(2, 0), 11);
        D.due("of 2", x.shares(2, 1), 10);
        D.due("11 is more than 10", x.shares(2, -1), 0);
        D.due("of 3", x.shares(3, 2), 5);
        D.due("3 hold", x.shares(3, -1), 1);
        D.due("of 4", x.shares(4, 0), 5);
        D.due("of 4", x.shares(4, 1), 4);
        D.due("of 5", x.shares(5, 4), 0);
        D.due("of 6", x.shares(6, 2), 17);
        D.due("of 6", x.shares(6, 3), 16);
        D.due("one alone would pay 10", x.shares(6, -1), 0);
        D.due("not so many", x.shares(6, 6), Due.NONE);
        D.due("not so many", x.shares(1, MAX), Due.NONE);
        D.due("k = -2", x.shares(6, -2), Due.BAD);
        D.due("k = MIN", x.shares(6, MIN), Due.BAD);
        D.due("n = 0", x.shares(0, 0), Due.BAD);
        D.due("n = 7", x.shares(7, 9), Due.BAD);
        x = Due.with("10 20 30 40 50 60");
        D.due("as much as alone is not more", x.shares(6, -1), 1);
        x = Due.with("10 15 24 99 99 99");
        D.due("two of three would leave", x.shares(3, -1), 0);
        D.due("their parts", x.shares(3, 0), 8);
    }

    private static void size() {
        D.due("10 by 1", Due.with("10 21 31 41 51 61").size(), 1);
        D.due("of several the least", Due.with("99 20 30 40 50 60").size(), 2);
        D.due("not cut: 10 by 3 is less than 7 by 2", Due.with("99 7 10 99 99 99").size(), 3);
        D.due("not cut: 7 by 2 is less than 11 by 3", Due.with("99 7 11 99 99 99").size(), 2);
        D.due("nothing for 5", Due.with("1 1 1 1 0 0").size(), 5);
        D.due("6", Due.with("99 99 99 99 99 99").size(), 6);
    }

    private static void book() {
        FirstCart x = Due.with("1 2 3 4 5 6", "go 1 0 0", "wait 0 0 1", "go 1 0 0", "back 0 0 0", "wait 5 0 0");
        D.due("day 1: who comes first", x.book(1, 1), 1);
        D.due("day 2: of like ones the least number", x.book(0, 2), 1);
        D.due("day 2", x.book(2, 2), 0);
        D.due("day 3", x.book(2, 3), 1);
        D.due("day 4: anew", x.book(1, 4), 2);
        D.due("30 days", x.book(0, 30), 10);
        D.due("not one that turns back", x.book(3, 30), 0);
        D.due("alone every day", x.book(4, 30), 30);
        D.due("n = 0", x.book(0, 0), Due.BAD);
        D.due("n = 31", x.book(0, 31), Due.BAD);
        D.due("cart 5", x.book(5, 1), Due.BAD);
        D.due("cart -1", x.book(-1, 1), Due.BAD);
        D.due("nothing changes: a day is as before", x.day(1, 2), 4);
        D.due("one book is apart from another", x.book(1, 1), 1);
        x = Due.with("1 2 3 4 5 6", "go 0 0 0", "go 0 0 0");
        D.due("in hour 0, too", x.book(0, 5), 3);
        D.due("in hour 0, too", x.book(1, 5), 2);
    }

    private static void ford(FirstCart x, int p, int n, int above, int below) {
        D.due("ford(0, " + p + ", " + n + ", 0)", x.ford(0, p, n, 0), above);
        D.due("ford(0, " + p + ", " + n + ", 1)", x.ford(0, p, n, 1), below);
    }

    private static void ford() {
        FirstCart x = Due.with("30 99 99 99 99 99", "wait 0 5 0");
        ford(x, 30, 0, 30, 1);
        ford(x, 30, 1, 26, 1);
        ford(x, 30, 2, 116, 5);
        ford(x, 30, 3, 531, 25);
        ford(x, 0, 3, 30, 1);
        ford(x, 10, 3, 30, 1);
        ford(x, 100, 3, 5, 1);
        ford(x, 100, 1, 5, 1);
        D.due("p = 101", x.ford(0, 101, 0, 0), Due.BAD);
        D.due("p = -1", x.ford(0, -1, 0, 0), Due.BAD);
        D.due("n = 4", x.ford(0, 0, 4, 0), Due.BAD);
        D.due("n = -1", x.ford(0, 0, -1, 0), Due.BAD);
        D.due("what = 2", x.ford(0, 0, 0, 2), Due.BAD);
        D.due("what = -1", x.ford(0, 0, 0, -1), Due.BAD);
        D.due("cart 1", x.ford(1, 0, 0, 0), Due.BAD);
        D.due("cart -1", x.ford(-1, 0, 0, 0), Due.BAD);
        x = Due.with("99 99 99 99 99 99", "wait 0 0 0");
        ford(x, 1, 3, 96059601, 1000000);
        ford(x, 100, 3, 0, 1);
        x = Due.with("3 99 99 99 99 99", "wait 0 20 0");
        ford(x, 100, 3, 3, 1);
        x = Due.with("0 99 99 99 99 99", "wait 0 20 0");
        ford(x, 50, 3, 0, 1);
        x = Due.with("99 99 99 99 99 99", "wait 0 20 0");
        ford(x, 57, 3, 40169193, 1000000);
    }

    private static void goat() {
        FirstCart x = Due.with("10 15 17 18 19 20", "wait 0 4 5", "wait 1 0 11");
        // Without it cart 0 goes in hour 5, pays 15 for two: 35.
        D.due("in hour 0: two together, the goat pays", x.goat(0, 0), 15 - 35);
        D.due("in hour 3: three", x.goat(0, 3), 12 + 17 - 35);
        D.due("in hour 5: the cart pays for three", x.goat(0, 5), 20 + 17 - 35);
        D.due("in hour 6: too late, it pays for itself", x.goat(0, 6), 10);
        D.due("of the other one", x.goat(1, 3), 17);
        D.due("hour 12", x.goat(0, 12), Due.BAD);
        D.due("hour -1", x.goat(0, -1), Due.BAD);
        D.due("cart 2: the goat is no cart", x.goat(2, 0), Due.BAD);
        D.due("cart -1", x.goat(-1, 0), Due.BAD);
        D.due("it is not there", x.count(1), 2);
        x = Due.with("1 2 3 4 5 6", "wait 0 0 3", "wait 0 0 3", "wait 0 0 3", "wait 0 0 3", "wait 0 0 3", "wait 0 0 3");
        D.due("seven: the toll for six", x.goat(5, 2), 6);
        D.due("the last number", x.goat(0, 3), 0);
        D.due("the last number", x.goat(0, 0), 0);
        x = Due.with("10 15 17 18 19 20", "form 0 4 11", "go 1 0 11");
        D.due("the goat is the third that stands", x.goat(0, 2), 8 + 15 - 59);
        x = Due.with("10 15 17 18 19 20", "back 0 4 11");
        D.due("in the last hour it pays for one that turns back", x.goat(0, 11), 44 + 15 - 54);
    }
}
