/** Promises 10 to 16: actions and undo. */
public final class ActionTest {
    private static final Expect expect = new Expect("ActionTest");

    public static void main(String[] args) {
        promise10Poke();
        promise11Order();
        promise12Own();
        promise13Start();
        promise14Stop();
        promise15Run();
        promise16Undo();
        promise16UndoOfAnOrderInHand();
        expect.finish();
    }

    private static void promise10Poke() {
        OrderChains x = new OrderChains();
        expect.that("poke(0, 99)", x.poke(0, 99), 0);
        expect.that("poke(0, 0)", x.poke(0, 0), 99);
        expect.that("poke(0, 5)", x.poke(0, 5), 0);
        expect.that("poke(95, 6)", x.poke(95, 6), 0);
        expect.that("value of 0", x.cell(0, 0), 5);
        expect.that("value of 95", x.cell(95, 0), 6);
        x.own(7, 1, 3);
        x.poke(7, 8);
        expect.that("poke of an owned cell", x.cell(7, 0), 8);
        expect.that("poke keeps the owner", x.cell(7, 1), 3);
        expect.that("poke is no write", x.about(7), 0);
    }

    private static void promise11Order() {
        OrderChains x = new OrderChains();
        expect.that("order at 0", x.order(0, 99, 98, 97, 96), 0);
        expect.cells(x, 0, 99, 98, 97, 96, 1, 6);
        expect.that("order at 0 again", x.order(0, 1, 2, 3, 4), 99);
        expect.cells(x, 0, 1, 2, 3, 4, 1, 6);
        expect.that("order at 90", x.order(90, 0, 0, 99, 0), 0);
        expect.cells(x, 90, 0, 0, 99, 0, 1, 96);
        expect.that("no cell behind the order", x.cell(6, 0), 0);
        expect.that("order is no write", x.about(7), 0);
        x.own(20, 6, 2);
        x.order(20, 5, 6, 7, 8);
        expect.cells(x, 20, 5, 6, 7, 8, 1, 26);
        expect.that("order keeps the owner", x.cell(20, 1), 2);
    }

    private static void promise12Own() {
        OrderChains x = new OrderChains();
        expect.that("own(3, 4, 2)", x.own(3, 4, 2), 4);
        for (int c = 0; c < 96; c++) {
            expect.that("owner of " + c, x.cell(c, 1), c >= 3 && c < 7 ? 2 : 0);
        }
        expect.that("own(3, 4, 2) again", x.own(3, 4, 2), 0);
        expect.that("own(5, 4, 2)", x.own(5, 4, 2), 2);
        expect.that("own(5, 1, 3)", x.own(5, 1, 3), 1);
        expect.that("own(0, 96, 1)", x.own(0, 96, 1), 96);
        expect.that("own(94, 96, 3)", x.own(94, 96, 3), 2);
        expect.that("own(95, 1, 0)", x.own(95, 1, 0), 1);
        expect.that("owned cells", x.about(9), 95);
        expect.that("own(0, 96, 0)", x.own(0, 96, 0), 95);
    }

    private static void promise13Start() {
        OrderChains x = new OrderChains();
        expect.that("start of an idle one", x.start(2, 95), 0);
        expect.that("start of a busy one", x.start(2, 94), 1);
        expect.that("its head", x.channel(2, 1), 94);
        x.run(9);
        expect.that("start of a faulty one", x.start(2, 10), 3);
        expect.that("its cause", x.channel(2, 2), OrderChains.NONE);
        x.run(9);
        expect.that("start of a done one", x.start(2, 20), 2);
        x.order(20, 3, 1, 50, 9);
        x.run(3);
        expect.that("units in hand", x.channel(2, 5), 2);
        expect.that("start with an order in hand", x.start(2, 20), 1);
        expect.that("no units in hand", x.channel(2, 5), 0);
        expect.that("no order in hand", x.channel(2, 3), OrderChains.NONE);
        expect.that("the cells written stay", x.channel(2, 7), 2);
    }

    private static void promise14Stop() {
        OrderChains x = new OrderChains();
        x.order(20, 3, 1, 50, 9);
        x.order(30, 6, 1, 50, 9);
        x.start(1, 20);
        expect.that("stop without an order in hand", x.stop(1), 0);
        expect.that("stopped: idle", x.channel(1, 0), 0);
        expect.that("stopped: its head", x.channel(1, 1), 20);
        x.start(1, 20);
        x.run(1);
        expect.that("stop with no unit done", x.stop(1), 9);
        x.start(1, 20);
        x.run(4);
        expect.that("stop with three units done", x.stop(1), 6);
        expect.that("stopped: no order", x.channel(1, 3), OrderChains.NONE);
        expect.that("stopped: no kind", x.channel(1, 4), OrderChains.NONE);
        expect.that("stopped: no units", x.channel(1, 5), 0);
        expect.that("stopped: head stays", x.channel(1, 1), 20);
        x.start(1, 30);
        x.run(1);
        expect.that("stop of a choice", x.stop(1), 0);
    }

    private static void promise15Run() {
        OrderChains x = new OrderChains();
        x.order(0, 3, 1, 50, 90);
        x.poke(4, 0);
        x.order(6, 3, 1, 50, 20);
        x.start(0, 0);
        expect.that("run(1)", x.run(1), 1);
        expect.that("run(99)", x.run(99), 99);
        expect.that("ticks", x.about(0), 100);
        expect.that("run to the end", x.run(99), 13);
        expect.that("ticks at the end", x.about(0), 113);
    }

    private static void promise16Undo() {
        OrderChains x = new OrderChains();
        expect.fails("undo of nothing", Engines.STATE, () -> x.undo());
        for (int v = 1; v <= 20; v++) {
            x.poke(0, v);
        }
        for (int left = 13; left >= 0; left--) {
            expect.that("undo", x.undo(), left);
            expect.that("value behind undo", x.cell(0, 0), 6 + left);
        }
        expect.fails("the fifteenth undo", Engines.STATE, () -> x.undo());
        x.poke(0, 50);
        x.poke(0, 51);
        expect.that("undo of one of two", x.undo(), 1);
        x.poke(0, 52);
        expect.that("undo behind an undo and an action", x.undo(), 1);
        expect.that("undo of the first", x.undo(), 0);
        expect.that("value at last", x.cell(0, 0), 6);
        for (int v = 1; v <= 14; v++) {
            x.poke(1, v);
        }
        for (int left = 13; left >= 0; left--) {
            expect.that("undo of fourteen", x.undo(), left);
        }
        expect.that("the fourteenth undo", x.cell(1, 0), 0);
    }

    private static void promise16UndoOfAnOrderInHand() {
        OrderChains x = Engines.loaded("E030740030312@12029000020190@90000000s000");
        x.run(2);
        x.save(0);
        x.order(0, 1, 90, 60, 5);
        x.start(0, 0);
        x.run(2);
        for (int left = 3; left > 0; left--) {
            x.undo();
        }
        x.run(2);
        int[] due = {7, 0, 0, 7, 0, 0, 7, 0};
        for (int i = 0; i < due.length; i++) {
            expect.that("a fill that undo brought back: cell " + (40 + i), x.cell(40 + i, 0), due[i]);
        }
        expect.that("its next", x.channel(0, 1), 12);
        x.restore(0);
        expect.that("stop of a fill that restore brought back", x.stop(0), 2);
    }
}
