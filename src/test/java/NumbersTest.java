/** Promises 6 to 9: what there is. */
public final class NumbersTest {
    private static final Expect expect = new Expect("NumbersTest");

    public static void main(String[] args) {
        promise6About();
        promise7Cell();
        promise8Channel();
        promise8Conditions();
        promise9Chain();
        expect.finish();
    }

    private static void promise6About() {
        OrderChains x = Engines.loaded("E030508020112o3@502122@4099s000s120s293");
        int[] atFirst = {0, 3, 0, 0, 0, 3 + 5 + 8 + 2 + 1 + 12 + 21 + 22 + 99, 0, 0, 0, 3};
        checkAbout(x, "at first", atFirst);
        x.run(1);
        x.run(1);
        int[] done = {2, 2, 1, 0, 2, 173, 0, 0, 12, 3};
        checkAbout(x, "one done", done);
        x.run(1);
        int[] faulty = {3, 1, 1, 1, 0, 173, 0, 0, 12, 3};
        checkAbout(x, "one faulty", faulty);
        x.run(2);
        int[] written = {5, 1, 1, 1, 0, 173 + 5 + 5, 0, 2, 12, 3};
        checkAbout(x, "two cells written", written);
        x.run(99);
        int[] ended = {6, 0, 2, 1, OrderChains.NONE, 183, 0, 2, 18, 3};
        checkAbout(x, "ended", ended);
        OrderChains owned = new OrderChains();
        owned.own(0, 1, 1);
        owned.own(95, 1, 3);
        expect.that("owners of the first and of the last cell", owned.about(9), 2);
        owned.poke(0, 40);
        owned.poke(95, 2);
        expect.that("sum of the first and of the last cell", owned.about(5), 42);
        OrderChains edited = Engines.loaded("E030502030112s000");
        edited.run(99);
        expect.that("edits of three fills into the order itself", edited.about(6), 3);
        expect.that("writes of them", edited.about(7), 3);
    }

    private static void checkAbout(OrderChains x, String when, int[] due) {
        for (int what = 0; what < due.length; what++) {
            expect.that(when + ": about(" + what + ")", x.about(what), due[what]);
        }
    }

    private static void promise7Cell() {
        OrderChains x = Engines.loaded("E0309070101o2@9545s200");
        expect.that("value of 95", x.cell(95, 0), 45);
        expect.that("owner of 95", x.cell(95, 1), 2);
        expect.that("owner of 94", x.cell(94, 1), 0);
        x.run(2);
        for (int c = 0; c < 96; c++) {
            expect.that("mark of " + c, x.cell(c, 2), c < 6 ? 1 : 0);
            expect.that("writer of " + c, x.cell(c, 3), c == 7 ? 2 : OrderChains.NONE);
        }
        x.poke(7, 3);
        x.poke(8, 3);
        expect.that("a poke is no write over one", x.cell(7, 3), 2);
        expect.that("a poke is no write", x.cell(8, 3), OrderChains.NONE);
        x.order(6, 3, 1, 7, 1);
        x.start(0, 6);
        x.run(3);
        expect.that("the last writer", x.cell(7, 3), 0);
    }

    private static void promise8Channel() {
        OrderChains x = Engines.loaded("E@20010040030024@300706s120");
        checkChannel(x, 1, "started", 1, 20, -9, -9, -9, 0, 0, 0);
        x.run(1);
        checkChannel(x, 1, "read", 1, 20, -9, 20, 1, 0, 1, 0);
        x.run(1);
        checkChannel(x, 1, "one unit", 1, 20, -9, 20, 1, 1, 1, 1);
        x.run(1);
        checkChannel(x, 1, "two units", 1, 20, -9, 20, 1, 2, 1, 2);
        x.run(1);
        checkChannel(x, 1, "all units", 1, 24, -9, -9, -9, 0, 1, 3);
        x.run(1);
        checkChannel(x, 1, "done", 2, 24, -9, -9, -9, 0, 2, 3);
        x.start(1, 30);
        checkChannel(x, 1, "started again", 1, 30, -9, -9, -9, 0, 2, 3);
        x.run(1);
        checkChannel(x, 1, "a kind above 6", 3, 30, 2, -9, -9, 0, 3, 3);
        x.start(1, 91);
        x.run(1);
        checkChannel(x, 1, "a head above 90", 3, 91, 1, -9, -9, 0, 3, 3);
        checkChannel(x, 0, "never started", 0, 0, -9, -9, -9, 0, 0, 0);
    }

    private static void promise8Conditions() {
        OrderChains x = Engines.loaded("E@10030196010112s110");
        x.run(2);
        checkChannel(x, 1, "a cell above 95", 3, 10, 3, -9, -9, 0, 1, 0);
        OrderChains y = Engines.loaded("Eo201@10o0030100020106s210");
        y.run(2);
        checkChannel(y, 2, "a foreign cell", 3, 10, 4, -9, -9, 0, 1, 0);
        y.start(2, 10);
        checkChannel(y, 2, "a faulty one started", 1, 10, -9, -9, -9, 0, 1, 0);
        y.run(1);
        y.stop(2);
        checkChannel(y, 2, "a stopped one", 0, 10, -9, -9, -9, 0, 2, 0);
        OrderChains z = Engines.loaded("E0510200101@5099s000s150");
        z.run(3);
        checkChannel(z, 0, "an exchange writes two cells", 1, 0, -9, -9, -9, 0, 1, 2);
    }

    private static void checkChannel(OrderChains x, int h, String when, int... due) {
        for (int what = 0; what < due.length; what++) {
            expect.that(when + ": channel(" + h + ", " + what + ")", x.channel(h, what), due[what]);
        }
    }

    private static void promise9Chain() {
        OrderChains x = new OrderChains();
        checkChain(x, 0, 1, 0);
        checkChain(x, 90, 1, 0);
        checkChain(x, 91, 0, 2);
        checkChain(x, 95, 0, 2);
        x.poke(90, 7);
        checkChain(x, 90, 1, 1);
        x.order(0, 1, 0, 0, 0);
        checkChain(x, 0, 2, 0);
        x.poke(5, 0);
        checkChain(x, 0, 1, 3);
        x.poke(5, 20);
        x.order(20, 6, 0, 0, 0);
        x.poke(25, 40);
        x.order(40, 3, 99, 99, 99);
        x.poke(45, 0);
        checkChain(x, 0, 3, 3);
        checkChain(x, 40, 3, 3);
        x.poke(45, 20);
        checkChain(x, 0, 3, 3);
        checkChain(x, 40, 2, 3);
        x.poke(45, 90);
        checkChain(x, 0, 4, 1);
        x.poke(45, 91);
        checkChain(x, 0, 3, 2);
        x.poke(45, 99);
        checkChain(x, 0, 3, 2);
        x.poke(20, 7);
        checkChain(x, 0, 2, 1);
        x.poke(20, 99);
        checkChain(x, 0, 2, 1);
        x.poke(20, 0);
        checkChain(x, 0, 2, 0);
        expect.that("a chain reads nothing", x.about(8), 0);
        OrderChains y = new OrderChains();
        for (int a = 0; a < 96; a++) {
            y.poke(a, 1);
        }
        for (int a = 0; a < 90; a += 6) {
            y.poke(a + 5, a + 6);
        }
        checkChain(y, 0, 17, 3);
    }

    private static void checkChain(OrderChains x, int a, int orders, int ending) {
        expect.that("chain(" + a + ", 0)", x.chain(a, 0), orders);
        expect.that("chain(" + a + ", 1)", x.chain(a, 1), ending);
    }
}
