/** Promises 1, 9 to 12, 24, 25, 30: a new object, hour, waits, undo, cart, image, restore, count. */
public final class HoursTest {
    private static final Due D = new Due("HoursTest");

    public static void main(String[] args) {
        newObject();
        sorts();
        foremost();
        lastHour();
        waits();
        undo();
        oldestIsForgotten();
        images();
        D.end();
    }

    private static void newObject() {
        FirstCart x = new FirstCart();
        for (int what = 0; what < 7; what++) {
            D.due("count(" + what + ")", x.count(what), 0);
        }
        D.due("count(7)", x.count(7), Due.BAD);
        D.due("count(-1)", x.count(-1), Due.BAD);
        D.due("hour()", x.hour(), Due.STATE);
        D.due("waits", x.waits(0, 0), Due.BAD);
        D.due("undo", x.undo(), Due.STATE);
        D.due("cart", x.cart(0, 0), Due.BAD);
        D.due("day", x.day(0, 0), Due.BAD);
        D.due("judge, STATE ahead of BAD", x.judge(9, 0), Due.STATE);
        D.due("best", x.best(0, 0), Due.BAD);
        D.due("rest, STATE ahead of BAD", x.rest(9), Due.STATE);
        D.due("rest(-1)", x.rest(-1), Due.STATE);
        D.due("thought", x.thought(0, 0), Due.BAD);
        D.due("two", x.two(0, 1, 0, 0), Due.BAD);
        D.due("shares, STATE ahead of BAD", x.shares(0, -2), Due.STATE);
        D.due("size", x.size(), Due.STATE);
        D.due("book", x.book(0, 1), Due.BAD);
        D.due("ford", x.ford(0, 0, 0, 0), Due.BAD);
        D.due("goat", x.goat(0, 0), Due.BAD);
        D.due("image(2), BAD ahead of STATE", x.image(2), Due.BAD);
        D.due("image(0)", x.image(0), Due.STATE);
        D.due("restore(-1)", x.restore(-1), Due.BAD);
        D.due("restore(1)", x.restore(1), Due.STATE);
        D.due("kind", x.kind(0), Due.BAD);
        D.due("as", x.as(0, 0), Due.BAD);
        D.due("ask", x.ask(0, 0), Due.BAD);
        D.due("trace", x.trace(0), Due.NONE);
        D.due("fault", x.fault(), 0);
        D.due("status", x.status(), 0);
    }

    private static void sorts() {
        FirstCart x = Due.with("10 11 12 13 14 15", "wait 0 1 2", "go 0 1 4", "back 1 1 0");
        D.due("hour 0", x.hour(), 0);
        D.due("hour 1", x.hour(), 0);
        D.due("hour 2: a going one stays, one that turns back comes along", x.hour(), 5);
        D.due("the waiting one pays for 2", x.cart(0, 4), 11);
        D.due("its cost", x.cart(0, 5), 13);
        D.due("went", x.cart(2, 3), 2);
        D.due("it pays nothing", x.cart(2, 4), 0);
        D.due("its cost", x.cart(2, 5), 1);
        D.due("not yet", x.cart(1, 3), Due.NONE);
        D.due("nothing so far", x.cart(1, 4), 0);
        D.due("no cost yet", x.cart(1, 5), Due.NONE);
        D.due("cart(.., 6)", x.cart(1, 6), Due.BAD);
        D.due("cart(.., -1)", x.cart(1, -1), Due.BAD);
        D.due("cart(3, 0)", x.cart(3, 0), Due.BAD);
        D.due("cart(-1, 0)", x.cart(-1, 0), Due.BAD);
        D.due("hour 3", x.hour(), 0);
        D.due("hour 4", x.hour(), 2);
        D.due("paid in all", x.count(5), 21);
        D.due("gone", x.count(3), 3);
        D.due("hours", x.count(2), 5);

        x = Due.with("10 11 12 13 14 15", "blind 3 5 11", "form 0 1 11", "go 2 1 11");
        D.due("hour 0", x.hour(), 0);
        D.due("hour 1", x.hour(), 0);
        D.due("hour 2: two stand", x.hour(), 0);
        D.due("hour 3: three do", x.hour(), 3);
        D.due("the forming one came first", x.cart(1, 4), 11);

        x = Due.with("10 11 12 13 14 15", "form 0 1 2", "form 3 1 11");
        D.due("hour 0", x.hour(), 0);
        D.due("hour 1", x.hour(), 0);
        D.due("a forming one by patience", x.hour(), 1);
    }

    private static void foremost() {
        FirstCart x = Due.with("10 11 12 13 14 15", "wait 1 0 0", "go 0 0 1", "wait 0 0 1", "wait 0 0 9");
        D.due("hour 0", x.hour(), 0);
        D.due("hour 1", x.hour(), 15);
        D.due("comes first, the least number", x.cart(1, 4), 13);
        D.due("paid in all", x.count(5), 13);

        x = Due.with("10 11 12 13 14 15", "wait 0 0 9", "blind 1 0 0");
        x.hour();
        D.due("hour 1", x.hour(), 3);
        D.due("one that is not ready does not pay", x.cart(0, 4), 0);
        D.due("the ready one does", x.cart(1, 4), 11);

        x = Due.with("1 2 3 4 5 6", "go 0 0 0", "go 0 0 0", "go 0 0 0", "go 0 0 0", "go 0 0 0", "go 0 0 0");
        D.due("six", x.hour(), 63);
        D.due("toll for 6", x.cart(0, 4), 6);
    }

    private static void lastHour() {
        FirstCart x = Due.with("10 11 12 13 14 15", "back 0 2 0", "go 11 3 5", "wait 5 1 11");
        for (int h = 0; h < 11; h++) {
            D.due("hour " + h, x.hour(), 0);
        }
        D.due("hour 11", x.hour(), 7);
        D.due("one that turns back pays only alone", x.cart(0, 4), 0);
        D.due("cost", x.cart(0, 5), 22);
        D.due("who comes first of the others", x.cart(2, 5), 18);
        D.due("cost", x.cart(1, 5), 0);
        D.due("hour 11 is gone", x.hour(), Due.FULL);
        D.due("hours", x.count(2), 12);
        D.due("acts", x.count(4), 12);
        x = Due.with("10 11 12 13 14 15", "back 4 0 0", "back 3 0 0");
        Due.hours(x, 12);
        D.due("no other is ready", x.cart(1, 4), 11);
        x = Due.with("7 7 7 7 7 7");
        D.due("an hour without carts", x.hour(), 0);
        D.due("it is an act", x.undo(), 0);
    }

    private static void waits() {
        FirstCart x = Due.with("10 11 12 13 14 15", "wait 0 1 2", "go 1 1 4");
        D.due("what it was", x.waits(0, 11), 2);
        D.due("what it is", x.cart(0, 2), 11);
        D.due("the same", x.waits(0, 11), 11);
        D.due("that is an act, too", x.count(4), 2);
        D.due("patience 12", x.waits(0, 12), Due.BAD);
        D.due("patience -1", x.waits(0, -1), Due.BAD);
        D.due("cart 2", x.waits(2, 0), Due.BAD);
        D.due("cart -1", x.waits(-1, 0), Due.BAD);
        D.due("refused: no act", x.count(4), 2);
        D.due("to 0", x.waits(0, 0), 11);
        D.due("ready at once", x.hour(), 1);
        D.due("it has gone", x.waits(0, 3), Due.STATE);
        D.due("BAD comes ahead of STATE", x.waits(0, 12), Due.BAD);
        D.due("acts", x.count(4), 4);
    }

    private static void undo() {
        FirstCart x = Due.with("10 11 12 13 14 15", "wait 0 1 2", "go 1 1 1");
        Due.hours(x, 2);
        x.waits(1, 7);
        D.due("hour 2", x.hour(), 1);
        D.due("the hour", x.undo(), 3);
        D.due("not gone", x.cart(0, 3), Due.NONE);
        D.due("nothing paid", x.cart(0, 4), 0);
        D.due("paid in all", x.count(5), 0);
        D.due("hours", x.count(2), 2);
        D.due("patience stands yet", x.cart(1, 2), 7);
        D.due("the patience", x.undo(), 2);
        D.due("patience", x.cart(1, 2), 1);
        D.due("hour 2 by it", x.hour(), 3);
        D.due("undone", x.undo(), 2);
        D.due("an hour without a train", x.undo(), 1);
        D.due("hour 0", x.undo(), 0);
        D.due("none", x.undo(), Due.STATE);
        D.due("hours", x.count(2), 0);
    }

    private static void oldestIsForgotten() {
        FirstCart x = Due.with("10 11 12 13 14 15", "wait 0 1 2");
        x.waits(0, 9);
        x.hour();
        for (int i = 0; i < 22; i++) {
            x.waits(0, i % 12);
        }
        D.due("24 acts", x.count(4), 24);
        D.due("one more", x.waits(0, 10), 9);
        D.due("24 acts still", x.count(4), 24);
        for (int left = 23; left > 0; left--) {
            D.due("undo", x.undo(), left);
        }
        D.due("patience behind the first", x.cart(0, 2), 9);
        D.due("hours", x.count(2), 1);
        D.due("the hour", x.undo(), 0);
        D.due("hours", x.count(2), 0);
        D.due("the oldest is forgotten", x.undo(), Due.STATE);
        D.due("so it stands", x.cart(0, 2), 9);
    }

    private static void images() {
        FirstCart x = Due.with("10 11 12 13 14 15", "wait 0 1 2", "go 1 1 1");
        D.due("none was kept", x.restore(0), Due.STATE);
        Due.hours(x, 3);
        D.due("image(0)", x.image(0), 1);
        D.due("image(2)", x.image(2), Due.BAD);
        D.due("image(-1)", x.image(-1), Due.BAD);
        D.due("none was kept in 1", x.restore(1), Due.STATE);
        D.due("acts stay by an image", x.count(4), 3);
        x.undo();
        x.waits(0, 5);
        D.due("image(1)", x.image(1), 1);
        x.hour();
        Due.pass(x, "toll 1 1 1 1 1 1;cart blind 3 3 3;");
        D.due("restore(2)", x.restore(2), Due.BAD);
        D.due("restore(0)", x.restore(0), 1);
        D.due("carts", x.count(1), 2);
        D.due("hours", x.count(2), 3);
        D.due("gone", x.count(3), 2);
        D.due("paid", x.cart(0, 4), 11);
        D.due("kind", x.kind(1), 4);
        D.due("no act", x.count(4), 0);
        D.due("none to undo", x.undo(), Due.STATE);
        D.due("restore(1)", x.restore(1), 1);
        D.due("patience", x.cart(0, 2), 5);
        D.due("hours", x.count(2), 2);
        D.due("gone", x.count(3), 0);
        x.waits(0, 1);
        D.due("an image is apart from the pass", x.restore(1), 1);
        D.due("the act is forgotten", x.count(4), 0);
        D.due("patience", x.cart(0, 2), 5);
        D.due("toll", x.shares(6, 0), 3);
    }
}
