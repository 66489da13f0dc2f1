/** The terms: turns, orders that are read, units of each kind, edits, owners, faults. */
public final class TickTest {
    private static final Expect expect = new Expect("TickTest");

    public static void main(String[] args) {
        turns();
        headsAboveTheLastOrder();
        kindsWithoutUnits();
        copyUpwards();
        copyDownwards();
        fill();
        add();
        exchange();
        choose();
        cellsThatDoNotExist();
        foreignCells();
        exchangeOfOneCell();
        ordersInHandDoNotChange();
        edits();
        expect.finish();
    }

    private static void turns() {
        OrderChains x = new OrderChains();
        for (int h = 0; h < 3; h++) {
            x.order(6 * h, 1, 50, 60 + h, 30);
        }
        x.start(1, 6);
        x.start(2, 12);
        checkTurns(x, 1, 2, 1);
        x.start(0, 0);
        checkTurns(x, 2, 0, 1, 2, 0, 1);
        x.stop(2);
        checkTurns(x, 0, 1, 0);
        x.start(2, 12);
        checkTurns(x, 1, 2, 0);
        x.stop(1);
        x.stop(0);
        checkTurns(x, 2, 2, 2);
        x.start(2, 12);
        checkTurns(x, 2, 2);
        x.start(0, 0);
        x.start(1, 6);
        checkTurns(x, 0, 1, 2);
        x.stop(0);
        x.stop(1);
        x.stop(2);
        expect.that("no turn", x.about(4), OrderChains.NONE);
        x.start(2, 12);
        x.start(1, 6);
        expect.that("the turn goes on behind the last one", x.about(4), 1);
    }

    private static void checkTurns(OrderChains x, int... turns) {
        for (int h : turns) {
            int ticks = x.about(0);
            expect.that("turn at tick " + ticks, x.about(4), h);
            int before = x.channel(h, 5) + x.channel(h, 6);
            x.run(1);
            expect.that("ticks", x.about(0), ticks + 1);
            expect.that("the tick was of " + h, x.channel(h, 5) + x.channel(h, 6), before + 1);
        }
    }

    private static void headsAboveTheLastOrder() {
        OrderChains x = new OrderChains();
        for (int a = 90; a < 96; a++) {
            x.start(0, a);
            x.run(1);
            expect.that("state behind head " + a, x.channel(0, 0), a == 90 ? 2 : 3);
            expect.that("cause of head " + a, x.channel(0, 2), a == 90 ? OrderChains.NONE : 1);
            expect.that("head " + a + " stays", x.channel(0, 1), a);
            expect.that("orders behind head " + a, x.channel(0, 6), 1);
            expect.that("marks behind head " + a, x.about(8), 6);
        }
        x.order(0, 1, 0, 0, 0);
        x.poke(5, 99);
        x.start(1, 0);
        expect.that("ticks to the next 99", x.run(99), 2);
        expect.that("head 99", x.channel(1, 1), 99);
        expect.that("cause of head 99", x.channel(1, 2), 1);
        expect.that("orders behind head 99", x.channel(1, 6), 1);
    }

    private static void kindsWithoutUnits() {
        for (int kind = 0; kind <= 8; kind++) {
            OrderChains x = new OrderChains();
            x.order(30, kind, 0, 0, 0);
            x.poke(35, 50);
            x.start(0, 30);
            x.run(1);
            boolean goesOn = kind >= 1 && kind <= 5;
            expect.that("kind " + kind + ": state", x.channel(0, 0), kind == 0 ? 2 : kind > 6 ? 3 : 1);
            expect.that("kind " + kind + ": cause", x.channel(0, 2), kind > 6 ? 2 : OrderChains.NONE);
            expect.that("kind " + kind + ": head", x.channel(0, 1), goesOn ? 50 : 30);
            expect.that("kind " + kind + ": place", x.channel(0, 3), kind == 6 ? 30 : OrderChains.NONE);
            expect.that("kind " + kind + ": kind", x.channel(0, 4), kind == 6 ? 6 : OrderChains.NONE);
            expect.that("kind " + kind + ": orders", x.channel(0, 6), 1);
            for (int c = 0; c < 96; c++) {
                expect.that("kind " + kind + ": mark " + c, x.cell(c, 2), c >= 30 && c < 36 ? 1 : 0);
            }
        }
    }

    private static void copyUpwards() {
        OrderChains x = Engines.loaded("E0140410312@40111213s000");
        x.run(99);
        expect.cells(x, 40, 11, 11, 11, 11, 0);
        OrderChains y = Engines.loaded("E014151030012@40111213s000");
        y.run(2);
        expect.cells(y, 50, 0, 12, 0, 0);
        y.run(1);
        expect.cells(y, 50, 0, 12, 13, 0);
        y.run(99);
        expect.cells(y, 50, 0, 12, 13, 0, 0);
        expect.that("the last cell is written too", y.cell(53, 3), 0);
        expect.that("three units", y.about(7), 3);
    }

    private static void copyDownwards() {
        OrderChains x = Engines.loaded("E024041030012@40111213s000");
        x.run(2);
        expect.cells(x, 40, 11, 12, 13, 13, 0);
        x.run(1);
        expect.cells(x, 40, 11, 12, 12, 13, 0);
        x.run(99);
        expect.cells(x, 40, 11, 11, 12, 13, 0);
    }

    private static void fill() {
        OrderChains x = Engines.loaded("E039950030212s000");
        x.run(99);
        expect.cells(x, 49, 0, 99, 0, 99, 0, 99, 0, 0);
        OrderChains y = Engines.loaded("E030750030012s000");
        y.run(99);
        expect.cells(y, 49, 0, 7, 0, 0);
        expect.that("a stride of 0 writes one cell thrice", y.channel(0, 7), 3);
    }

    private static void add() {
        OrderChains x = Engines.loaded("E046050030312@5039407099s000");
        x.run(99);
        expect.cells(x, 50, 99, 40, 70, 59, 0, 0, 60);
        OrderChains y = Engines.loaded("E049950020012@5040s000");
        y.run(2);
        expect.cells(y, 50, 39);
        y.run(1);
        expect.cells(y, 50, 38);
        OrderChains z = Engines.loaded("E040150010012@5099s000");
        z.run(99);
        expect.cells(z, 50, 0);
    }

    private static void exchange() {
        OrderChains x = Engines.loaded("E054050020012@400102@500304s000");
        x.run(2);
        expect.cells(x, 40, 3, 2);
        expect.cells(x, 50, 1, 4);
        x.run(99);
        expect.cells(x, 40, 3, 4);
        expect.cells(x, 50, 1, 2);
        expect.that("writes of two exchanges", x.about(7), 4);
        expect.that("writer of 40", x.cell(40, 3), 0);
        expect.that("writer of 50", x.cell(50, 3), 0);
        OrderChains y = Engines.loaded("E054041020012@40010203s000");
        y.run(99);
        expect.cells(y, 40, 2, 3, 1, 0);
    }

    private static void choose() {
        OrderChains x = Engines.loaded("E065007990950@5007s000");
        x.run(1);
        expect.that("a choice is in hand", x.channel(0, 4), 6);
        expect.that("its head is its place", x.channel(0, 1), 0);
        x.run(1);
        expect.that("chosen: next", x.channel(0, 1), 50);
        expect.that("chosen: no order", x.channel(0, 3), OrderChains.NONE);
        Engines.type(x, "E065008990950@5007s000");
        x.load();
        x.run(2);
        expect.that("not chosen: place plus 6", x.channel(0, 1), 6);
        Engines.type(x, "E@90069508000000s190");
        x.load();
        x.run(2);
        expect.that("not chosen behind 90", x.channel(1, 1), 96);
        x.run(1);
        expect.that("96 has no order", x.channel(1, 2), 1);
        Engines.type(x, "E069600990950s000");
        x.load();
        x.run(2);
        expect.that("a choice of a cell above 95", x.channel(0, 2), 3);
        expect.that("its head stays", x.channel(0, 1), 0);
        Engines.type(x, "E069500990950o3@9500s000");
        x.load();
        x.run(2);
        expect.that("a choice writes nothing: a foreign cell is fine", x.channel(0, 1), 50);
        expect.that("no write", x.about(7), 0);
        expect.that("no mark of the cell of a choice", x.cell(95, 2), 0);
    }

    private static void cellsThatDoNotExist() {
        checkCause("E019500010012s000", 2, 0);
        checkCause("E019600010012s000", 2, 3);
        checkCause("E010095010012s000", 2, 0);
        checkCause("E010096010012s000", 2, 3);
        checkCause("E019500020012s000", 3, 3);
        checkCause("E010095020012s000", 3, 3);
        checkCause("E029500020012s000", 2, 3);
        checkCause("E020095020012s000", 2, 3);
        checkCause("E039995010012s000", 2, 0);
        checkCause("E039996010012s000", 2, 3);
        checkCause("E039994020112s000", 3, 0);
        checkCause("E039994020212s000", 3, 3);
        checkCause("E039999999912s000", 2, 3);
        checkCause("E049995010012s000", 2, 0);
        checkCause("E049996010012s000", 2, 3);
        checkCause("E049960029912s000", 3, 3);
        checkCause("E055095010012s000", 2, 0);
        checkCause("E055096010012s000", 2, 3);
        checkCause("E059650010012s000", 2, 3);
        checkCause("E059696010012s000", 2, 3);
    }

    /** Lets some ticks go by and compares the cause; 0 stands for a channel that is still busy. */
    private static void checkCause(String text, int ticks, int cause) {
        OrderChains x = Engines.loaded(text);
        x.run(ticks);
        expect.that(text + ": state", x.channel(0, 0), cause == 0 ? 1 : 3);
        expect.that(text + ": cause", x.channel(0, 2), cause == 0 ? OrderChains.NONE : cause);
        if (cause != 0) {
            expect.that(text + ": head stays", x.channel(0, 1), 0);
            expect.that(text + ": writes", x.about(7), cause == 3 ? ticks - 2 : x.about(7));
        }
    }

    private static void foreignCells() {
        String[] ofCell60 = {
            "E015060010012", "E025060010012", "E030160010012", "E040160010012", "E055060010012", "E056050010012"};
        for (String text : ofCell60) {
            for (int owner = 0; owner < 4; owner++) {
                checkCause(text + "o" + owner + "@6007s000", 2, owner > 1 ? 4 : 0);
            }
        }
        checkCause("E016050010012o2@6007s000", 2, 0);
        checkCause("E016096010012o2@6007s000", 2, 3);
        checkCause("E059660010012o2@6007s000", 2, 3);
        OrderChains x = Engines.loaded("E054060010012@4009o2@6007s000");
        x.run(2);
        expect.that("nothing of a forbidden exchange is written", x.about(7), 0);
        expect.cells(x, 40, 9);
        expect.cells(x, 60, 7);
        OrderChains y = Engines.loaded("E03016003011212o2@6107s000");
        y.run(3);
        expect.that("the second unit is forbidden", y.channel(0, 2), 4);
        expect.cells(y, 60, 1, 7, 0);
        y.own(61, 1, 1);
        y.start(0, 0);
        y.run(99);
        expect.cells(y, 60, 1, 1, 1, 0);
        OrderChains z = Engines.loaded("E030160010112o2@6007s100");
        z.run(2);
        expect.cells(z, 60, 1);
    }

    private static void exchangeOfOneCell() {
        OrderChains x = Engines.loaded("E056060020012o2@6007s000");
        x.run(2);
        expect.that("one cell: still busy, though it is foreign", x.channel(0, 0), 1);
        expect.that("one cell: a unit is done", x.channel(0, 5), 1);
        x.run(99);
        expect.that("one cell: no write", x.about(7), 0);
        expect.that("one cell: no writer", x.cell(60, 3), OrderChains.NONE);
        expect.cells(x, 60, 7);
        OrderChains y = Engines.loaded("E050000060012s000");
        y.run(99);
        expect.that("one cell: no edit", y.about(6), 0);
    }

    private static void ordersInHandDoNotChange() {
        OrderChains x = Engines.loaded("E039900061212s000");
        x.run(3);
        expect.cells(x, 0, 99, 99);
        x.stop(0);
        Engines.type(x, "E030700060112s000");
        x.load();
        x.run(7);
        expect.cells(x, 0, 7, 7, 7, 7, 7, 7, 0);
        expect.that("its next is the one that was read", x.channel(0, 1), 12);
        OrderChains y = Engines.loaded("E014050100112@40112233s000");
        y.run(2);
        y.poke(0, 3);
        y.poke(1, 0);
        y.poke(2, 90);
        y.poke(3, 1);
        y.run(2);
        expect.cells(y, 50, 11, 22, 33, 0);
        expect.that("its kind is the one that was read", y.channel(0, 4), 1);
    }

    private static void edits() {
        OrderChains x = Engines.loaded("E030103010112@2003010001@2512s000s120");
        x.run(99);
        expect.that("edits of its own cells and of another channel", x.about(6), 2);
        OrderChains y = Engines.loaded("E050010010112@1000s000");
        y.run(99);
        expect.that("one edit of an exchange", y.about(6), 1);
        expect.that("two writes of it", y.about(7), 2);
        OrderChains z = Engines.loaded("E050005010112s000");
        z.run(2);
        expect.that("two edits of an exchange", z.about(6), 2);
        OrderChains w = Engines.loaded("E030150020112s000");
        w.run(99);
        expect.that("no edit of unread cells", w.about(6), 0);
        w.start(1, 49);
        w.run(1);
        w.start(0, 0);
        w.run(99);
        expect.that("edits of cells that were read long ago", w.about(6), 2);
        w.poke(50, 3);
        expect.that("a poke is no edit", w.about(6), 2);
    }
}
