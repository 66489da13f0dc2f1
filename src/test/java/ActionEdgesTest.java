/** The sentences of "Actions and undo" and of promises 10 to 16 that name a boundary: a test for each. */
public final class ActionEdgesTest {
    private static final Expect expect = new Expect("ActionEdgesTest");
    private static final int NONE = OrderChains.NONE;
    private static final int MOST_STATES = 14;

    public static void main(String[] args) {
        pokeFromCell0ToCell95();
        pokeFromValue0ToValue99();
        pokeOfAnOwnedCell();
        pokeOfACellThatIsMarked();
        orderFromCell0ToCell90();
        orderBeyondCell90();
        orderWithEachArgumentFrom0To99();
        orderLaysSixCells();
        orderIsLikePoke();
        ownFromCell0ToCell95();
        ownFrom1To96Cells();
        ownAsFarAsThereAreCells();
        ownFromOwner0ToOwner3();
        ownCountsOnlyThoseThatChange();
        startFromChannel0ToChannel2();
        startFromHead0ToHead95();
        startWhateverItIs();
        startLeavesNothingInHand();
        startKeepsWhatACountTells();
        stopFromChannel0ToChannel2();
        stopOfOneThatIsNotBusy();
        stopWithoutAnOrderInHand();
        stopOfTheFirstAndOfTheLastUnit();
        stopOfAChoice();
        runFrom1To99();
        runUntilNoneIsBusy();
        runWithoutABusyOne();
        undoOfNothing();
        undoOf14States();
        undoOf15States();
        undoOfOneStateMoreBehindUndo();
        undoIsNoAction();
        undoOfEachActionThatChangesNothing();
        undoOfEachAction();
        refusedCallsAreNoActions();
        questionsAreNoActions();
        loadAndRestoreAreNoActions();
        undoKeepsTheTextAndTheSlots();
        expect.finish();
    }

    /** "IndexOutOfBoundsException if there is no such cell". */
    private static void pokeFromCell0ToCell95() {
        OrderChains x = new OrderChains();
        for (int c = 0; c < 96; c++) {
            expect.that("poke(" + c + ", ..)", x.poke(c, 1 + c), 0);
        }
        for (int c = 0; c < 96; c++) {
            expect.that("value of " + c, x.cell(c, 0), 1 + c);
        }
        for (int c : Engines.NOT_CELLS) {
            expect.fails("poke(" + c + ", 0)", Engines.INDEX, () -> x.poke(c, 0));
        }
    }

    /** "v: 0 to 99"; "Returns its previous value." */
    private static void pokeFromValue0ToValue99() {
        OrderChains x = new OrderChains();
        for (int v = 0; v <= 99; v++) {
            expect.that("poke(95, " + v + ")", x.poke(95, v), v == 0 ? 0 : v - 1);
            expect.that("value " + v, x.cell(95, 0), v);
        }
        expect.that("poke of the same value", x.poke(95, 99), 99);
        for (int v : Engines.NOT_VALUES) {
            expect.fails("poke(95, " + v + ")", Engines.ARGUMENT, () -> x.poke(95, v));
        }
        expect.that("the last value", x.cell(95, 0), 99);
    }

    /** "(whoever owns it ..)". */
    private static void pokeOfAnOwnedCell() {
        OrderChains x = new OrderChains();
        for (int owner = 0; owner <= 3; owner++) {
            x.own(owner, 1, owner);
            x.poke(owner, 50);
            expect.that("value of a cell of " + owner, x.cell(owner, 0), 50);
            expect.that("its owner", x.cell(owner, 1), owner);
        }
    }

    /** "this is no write": so it is no edit. */
    private static void pokeOfACellThatIsMarked() {
        OrderChains x = new OrderChains();
        x.start(0, 0);
        x.run(1);
        x.poke(0, 5);
        expect.that("edits", x.about(6), 0);
        expect.that("writes", x.about(7), 0);
        expect.that("its writer", x.cell(0, 3), NONE);
        expect.that("its mark", x.cell(0, 2), 1);
    }

    /** "An order at a cell a (0 to 90)". */
    private static void orderFromCell0ToCell90() {
        for (int a = 0; a <= 90; a++) {
            OrderChains x = new OrderChains();
            expect.that("order(" + a + ", ..)", x.order(a, 5, 4, 3, 2), 0);
            expect.cells(x, a, 5, 4, 3, 2, 1, a + 6);
            expect.that("order(" + a + ", ..) again", x.order(a, 99, 4, 3, 2), 5);
        }
    }

    /** "IllegalArgumentException if a is above 90"; "IndexOutOfBoundsException if there is no such cell". */
    private static void orderBeyondCell90() {
        OrderChains x = new OrderChains();
        for (int a = 91; a <= 95; a++) {
            int place = a;
            expect.fails("order(" + a + ", ..)", Engines.ARGUMENT, () -> x.order(place, 0, 0, 0, 0));
        }
        for (int a : Engines.NOT_CELLS) {
            expect.fails("order(" + a + ", ..)", Engines.INDEX, () -> x.order(a, 0, 0, 0, 0));
        }
        expect.that("the sum of all values", x.about(5), 0);
    }

    /** "kind: 0 to 99", "from: 0 to 99", "to: 0 to 99", "count: 0 to 99". */
    private static void orderWithEachArgumentFrom0To99() {
        OrderChains x = new OrderChains();
        for (int k = 0; k < 4; k++) {
            for (int v = 0; v <= 99; v += 99) {
                x.order(0, k == 0 ? v : 50, k == 1 ? v : 51, k == 2 ? v : 52, k == 3 ? v : 53);
                for (int i = 0; i < 4; i++) {
                    expect.that("argument " + k + " is " + v + ": value of " + i, x.cell(i, 0), i == k ? v : 50 + i);
                }
            }
        }
        for (int v : Engines.NOT_VALUES) {
            expect.fails("the kind " + v, Engines.ARGUMENT, () -> x.order(0, v, 0, 0, 0));
            expect.fails("from " + v, Engines.ARGUMENT, () -> x.order(0, 0, v, 0, 0));
            expect.fails("to " + v, Engines.ARGUMENT, () -> x.order(0, 0, 0, v, 0));
            expect.fails("the count " + v, Engines.ARGUMENT, () -> x.order(0, 0, 0, 0, v));
        }
        expect.cells(x, 0, 50, 51, 52, 99, 1, 6);
    }

    /** "Lays an order into six cells .. its stride becomes 1, its next a + 6": and into no other. */
    private static void orderLaysSixCells() {
        OrderChains x = new OrderChains();
        for (int c = 0; c < 96; c++) {
            x.poke(c, 77);
        }
        x.order(1, 0, 0, 0, 0);
        expect.cells(x, 0, 77, 0, 0, 0, 0, 1, 7, 77);
        x.order(90, 0, 0, 0, 0);
        expect.cells(x, 89, 77, 0, 0, 0, 0, 1, 96);
    }

    /** "like poke()": whoever owns them, and it is no write. */
    private static void orderIsLikePoke() {
        OrderChains x = new OrderChains();
        x.own(0, 6, 3);
        x.start(0, 0);
        x.run(1);
        x.order(0, 3, 1, 50, 1);
        expect.cells(x, 0, 3, 1, 50, 1, 1, 6);
        for (int c = 0; c < 6; c++) {
            expect.that("owner of " + c, x.cell(c, 1), 3);
            expect.that("writer of " + c, x.cell(c, 3), NONE);
        }
        expect.that("edits", x.about(6), 0);
        expect.that("writes", x.about(7), 0);
    }

    /** "IndexOutOfBoundsException if there is no such cell". */
    private static void ownFromCell0ToCell95() {
        OrderChains x = new OrderChains();
        for (int c = 0; c < 96; c++) {
            expect.that("own(" + c + ", 1, 2)", x.own(c, 1, 2), 1);
            expect.that("owner of " + c, x.cell(c, 1), 2);
        }
        for (int c : Engines.NOT_CELLS) {
            expect.fails("own(" + c + ", 1, 0)", Engines.INDEX, () -> x.own(c, 1, 0));
        }
    }

    /** "n: how many cells, 1 to 96". */
    private static void ownFrom1To96Cells() {
        for (int n = 1; n <= 96; n++) {
            OrderChains x = new OrderChains();
            expect.that("own(0, " + n + ", 1)", x.own(0, n, 1), n);
            expect.that("the owner of the last of " + n, x.cell(n - 1, 1), 1);
            expect.that("cells of " + n, x.about(9), n);
        }
        OrderChains x = new OrderChains();
        int[] wrong = {-1, 0, 97, Integer.MIN_VALUE, Integer.MAX_VALUE};
        for (int n : wrong) {
            expect.fails("own(0, " + n + ", 1)", Engines.ARGUMENT, () -> x.own(0, n, 1));
            expect.fails("own(95, " + n + ", 1)", Engines.ARGUMENT, () -> x.own(95, n, 1));
        }
        expect.that("cells with an owner", x.about(9), 0);
    }

    /** "as far as there are any". */
    private static void ownAsFarAsThereAreCells() {
        for (int n = 1; n <= 96; n++) {
            OrderChains x = new OrderChains();
            expect.that("own(95, " + n + ", 1)", x.own(95, n, 1), 1);
            expect.that("own(90, " + n + ", 2)", x.own(90, n, 2), Math.min(n, 6));
            expect.that("owned cells", x.about(9), n < 6 ? n + 1 : 6);
            expect.that("own(1, " + n + ", 3)", x.own(1, n, 3), Math.min(n, 95));
            expect.that("owner of 0", x.cell(0, 1), 0);
        }
    }

    /** "owner: 0 to 3". */
    private static void ownFromOwner0ToOwner3() {
        OrderChains x = new OrderChains();
        for (int owner = 3; owner >= 0; owner--) {
            expect.that("own(7, 1, " + owner + ")", x.own(7, 1, owner), 1);
            expect.that("owner " + owner, x.cell(7, 1), owner);
        }
        int[] wrong = {-1, 4, Integer.MIN_VALUE, Integer.MAX_VALUE};
        for (int owner : wrong) {
            expect.fails("own(7, 1, " + owner + ")", Engines.ARGUMENT, () -> x.own(7, 1, owner));
        }
        expect.that("owner still", x.cell(7, 1), 0);
    }

    /** "Returns how many of them had another owner." */
    private static void ownCountsOnlyThoseThatChange() {
        OrderChains x = new OrderChains();
        expect.that("own of nobody's cells for nobody", x.own(0, 96, 0), 0);
        expect.that("own(10, 3, 2)", x.own(10, 3, 2), 3);
        expect.that("own(10, 3, 2) again", x.own(10, 3, 2), 0);
        expect.that("own(9, 5, 2)", x.own(9, 5, 2), 2);
        expect.that("own(0, 96, 1)", x.own(0, 96, 1), 96);
    }

    /** "IndexOutOfBoundsException if there is no such channel or cell". */
    private static void startFromChannel0ToChannel2() {
        OrderChains x = new OrderChains();
        for (int h = 0; h <= 2; h++) {
            expect.that("start(" + h + ", 0)", x.start(h, 0), 0);
            expect.that("busy channels", x.about(1), h + 1);
        }
        OrderChains y = new OrderChains();
        for (int h : Engines.NOT_CHANNELS) {
            expect.fails("start(" + h + ", 0)", Engines.INDEX, () -> y.start(h, 0));
        }
        expect.that("busy channels behind refused calls", y.about(1), 0);
    }

    /** "a: its head, a cell": also one at which no order fits. */
    private static void startFromHead0ToHead95() {
        OrderChains x = new OrderChains();
        for (int a = 0; a < 96; a++) {
            expect.that("start(1, " + a + ")", x.start(1, a), a == 0 ? 0 : 1);
            expect.that("head " + a, x.channel(1, 1), a);
        }
        for (int a : Engines.NOT_CELLS) {
            expect.fails("start(1, " + a + ")", Engines.INDEX, () -> x.start(1, a));
        }
        expect.that("the head still", x.channel(1, 1), 95);
    }

    /** "Starts a channel, whatever it is"; "Returns what it was: 0 idle, 1 busy, 2 done, 3 faulty." */
    private static void startWhateverItIs() {
        OrderChains x = new OrderChains();
        expect.that("an idle one", x.start(2, 0), 0);
        expect.that("a busy one", x.start(2, 0), 1);
        x.run(1);
        expect.that("a done one", x.start(2, 91), 2);
        x.run(1);
        expect.that("a faulty one", x.start(2, 0), 3);
        x.stop(2);
        expect.that("a stopped one", x.start(2, 0), 0);
        expect.that("busy then", x.channel(2, 0), 1);
    }

    /** "it is busy then, without an order in hand": so its next tick reads one. */
    private static void startLeavesNothingInHand() {
        OrderChains x = Engines.ordered(0, 0, 3, 7, 50, 9, 1, 30);
        x.run(4);
        x.start(0, 0);
        expect.that("place", x.channel(0, 3), NONE);
        expect.that("units", x.channel(0, 5), 0);
        x.poke(1, 8);
        x.run(3);
        expect.cells(x, 50, 8, 8, 7, 0);
        expect.that("orders that were read", x.channel(0, 6), 2);
    }

    /** "the orders that it has read so far", "the cells that it wrote so far": a start forgets none. */
    private static void startKeepsWhatACountTells() {
        OrderChains x = Engines.ordered(0, 0, 3, 7, 50, 2, 1, 30);
        x.run(99);
        x.start(0, 0);
        expect.that("orders", x.channel(0, 6), 2);
        expect.that("cells", x.channel(0, 7), 2);
        x.stop(0);
        expect.that("orders of a stopped one", x.channel(0, 6), 2);
        expect.that("cells of a stopped one", x.channel(0, 7), 2);
    }

    /** "IndexOutOfBoundsException if there is no such channel". */
    private static void stopFromChannel0ToChannel2() {
        OrderChains x = new OrderChains();
        for (int h = 0; h <= 2; h++) {
            x.start(h, 40 + h);
        }
        for (int h : Engines.NOT_CHANNELS) {
            expect.fails("stop(" + h + ")", Engines.INDEX, () -> x.stop(h));
        }
        for (int h = 0; h <= 2; h++) {
            expect.that("busy channels", x.about(1), 3 - h);
            expect.that("stop(" + h + ")", x.stop(h), 0);
            expect.that("idle then", x.channel(h, 0), 0);
            expect.that("its head stays", x.channel(h, 1), 40 + h);
        }
    }

    /** "IllegalStateException if it is not busy". */
    private static void stopOfOneThatIsNotBusy() {
        OrderChains x = new OrderChains();
        expect.fails("stop of an idle one", Engines.STATE, () -> x.stop(0));
        x.start(0, 0);
        x.start(1, 91);
        x.run(2);
        expect.fails("stop of a done one", Engines.STATE, () -> x.stop(0));
        expect.fails("stop of a faulty one", Engines.STATE, () -> x.stop(1));
        expect.that("done still", x.channel(0, 0), 2);
        expect.that("faulty still", x.channel(1, 0), 3);
        expect.that("with its cause", x.channel(1, 2), 1);
        x.start(2, 0);
        x.stop(2);
        expect.fails("stop of a stopped one", Engines.STATE, () -> x.stop(2));
    }

    /** "(0 without one ..)". */
    private static void stopWithoutAnOrderInHand() {
        OrderChains x = Engines.ordered(0, 0, 3, 7, 50, 2, 1, 0);
        expect.that("stop ahead of reading", x.stop(0), 0);
        x.start(0, 0);
        x.run(3);
        expect.that("stop behind the last unit", x.stop(0), 0);
        x.start(0, 0);
        x.run(1);
        x.start(0, 0);
        expect.that("stop behind a new start", x.stop(0), 0);
    }

    /** "Returns the units of its order in hand that were not done". */
    private static void stopOfTheFirstAndOfTheLastUnit() {
        for (int kind = 1; kind <= 5; kind++) {
            OrderChains x = Engines.ordered(0, 0, kind, 40, 50, 3, 1, 30);
            for (int done = 0; done < 3; done++) {
                x.start(0, 0);
                x.run(1 + done);
                expect.that("kind " + kind + ": units left behind " + done, x.stop(0), 3 - done);
            }
        }
        OrderChains x = Engines.ordered(0, 0, 3, 7, 50, 99, 0, 30);
        x.run(1);
        expect.that("all units of the greatest count", x.stop(0), 99);
        x.start(0, 0);
        x.run(99);
        expect.that("the last unit of the greatest count", x.stop(0), 1);
    }

    /** "(.. or if it is of the kind 6)". */
    private static void stopOfAChoice() {
        OrderChains x = Engines.ordered(0, 0, 6, 40, 50, 99, 1, 30);
        x.run(1);
        expect.that("a choice is in hand", x.channel(0, 4), 6);
        expect.that("stop of a choice", x.stop(0), 0);
    }

    /** "n: 1 to 99: how many ticks at most". */
    private static void runFrom1To99() {
        OrderChains x = Engines.ordered(0, 0, 4, 1, 50, 99, 0, 0);
        int ticks = 0;
        for (int n = 1; n <= 99; n++) {
            expect.that("run(" + n + ")", x.run(n), n);
            ticks += n;
            expect.that("ticks", x.about(0), ticks);
        }
        int[] wrong = {-1, 0, 100, Integer.MIN_VALUE, Integer.MAX_VALUE};
        for (int n : wrong) {
            expect.fails("run(" + n + ")", Engines.ARGUMENT, () -> x.run(n));
        }
        expect.that("ticks behind refused calls", x.about(0), ticks);
    }

    /** "Lets ticks go by, until none is busy."; "Returns how many ticks there were." */
    private static void runUntilNoneIsBusy() {
        for (int n = 1; n <= 7; n++) {
            OrderChains x = Engines.ordered(0, 0, 3, 7, 50, 3, 1, 30);
            expect.that("run(" + n + ") of five ticks", x.run(n), Math.min(n, 5));
            expect.that("ticks of run(" + n + ")", x.about(0), Math.min(n, 5));
            expect.that("condition behind run(" + n + ")", x.channel(0, 0), n < 5 ? 1 : 2);
        }
        OrderChains y = new OrderChains();
        for (int h = 0; h < 3; h++) {
            y.start(h, 91);
        }
        expect.that("until all of three are faulty", y.run(99), 3);
    }

    /** "IllegalStateException if no channel is busy". */
    private static void runWithoutABusyOne() {
        OrderChains x = new OrderChains();
        expect.fails("run with idle channels", Engines.STATE, () -> x.run(1));
        x.start(0, 0);
        x.start(1, 91);
        x.run(99);
        expect.fails("run with a done and a faulty channel", Engines.STATE, () -> x.run(99));
        x.start(2, 0);
        expect.that("run with one that is busy", x.run(1), 1);
    }

    /** "IllegalStateException if none is remembered". */
    private static void undoOfNothing() {
        OrderChains x = new OrderChains();
        expect.fails("undo of a new object", Engines.STATE, () -> x.undo());
        x.poke(0, 1);
        expect.that("undo of one action", x.undo(), 0);
        expect.fails("undo behind it", Engines.STATE, () -> x.undo());
        expect.that("the first state", x.cell(0, 0), 0);
    }

    private static OrderChains poked(int actions) {
        OrderChains x = new OrderChains();
        for (int v = 1; v <= actions; v++) {
            x.poke(0, v);
        }
        return x;
    }

    /** "At most 14 states are remembered". */
    private static void undoOf14States() {
        OrderChains x = poked(MOST_STATES);
        for (int left = MOST_STATES - 1; left >= 0; left--) {
            expect.that("states left", x.undo(), left);
            expect.that("value then", x.cell(0, 0), left);
        }
        expect.fails("the fifteenth undo", Engines.STATE, () -> x.undo());
    }

    /** "when one more is remembered, the oldest one is forgotten". */
    private static void undoOf15States() {
        for (int more = 1; more <= 30; more++) {
            OrderChains x = poked(MOST_STATES + more);
            for (int left = MOST_STATES - 1; left >= 0; left--) {
                expect.that("states left", x.undo(), left);
                expect.that("value then", x.cell(0, 0), more + left);
            }
            expect.fails("undo behind " + more + " that were forgotten", Engines.STATE, () -> x.undo());
            expect.that("the oldest value that was remembered", x.cell(0, 0), more);
        }
    }

    /** The same, when some were taken back before. */
    private static void undoOfOneStateMoreBehindUndo() {
        OrderChains x = poked(MOST_STATES + 1);
        expect.that("undo", x.undo(), MOST_STATES - 1);
        x.poke(0, 50);
        x.poke(0, 51);
        expect.that("undo of the last one", x.undo(), MOST_STATES - 1);
        expect.that("value then", x.cell(0, 0), 50);
        for (int left = MOST_STATES - 2; left >= 0; left--) {
            expect.that("states left", x.undo(), left);
        }
        expect.that("the oldest value that was remembered", x.cell(0, 0), 2);
        expect.fails("undo of one more", Engines.STATE, () -> x.undo());
    }

    /** "(undo is none)". */
    private static void undoIsNoAction() {
        OrderChains x = poked(3);
        expect.that("undo", x.undo(), 2);
        expect.that("undo again", x.undo(), 1);
        expect.that("it went on to the state before", x.cell(0, 0), 1);
        expect.that("undo for the last time", x.undo(), 0);
        expect.fails("undo of nothing", Engines.STATE, () -> x.undo());
    }

    private interface Action {
        void on(OrderChains x);
    }

    /** A state in which channel 0 has an order in hand, 1 is done and 2 is faulty. */
    private static OrderChains scene() {
        OrderChains x = Engines.loaded("E033350090112@6077o201s000s112s295");
        x.run(4);
        return x;
    }

    private static void checkUndo(String what, Action action) {
        OrderChains x = scene();
        action.on(x);
        expect.that("undo of " + what, x.undo(), 1);
        expect.same("the state behind undo of " + what, Engines.everything(x), Engines.everything(scene()));
        expect.that("undo of the run before " + what, x.undo(), 0);
        expect.that("ticks then", x.about(0), 0);
    }

    /** "Each call of one of them that does not throw an exception is an action, also if nothing becomes different". */
    private static void undoOfEachActionThatChangesNothing() {
        checkUndo("a poke of the same value", x -> x.poke(60, 77));
        checkUndo("an order that is there already", x -> {
            x.order(30, 0, 0, 0, 0);
            x.order(30, 0, 0, 0, 0);
            x.undo();
        });
        checkUndo("an own for the same owner", x -> x.own(61, 1, 2));
        OrderChains started = new OrderChains();
        started.start(0, 0);
        started.start(0, 0);
        expect.that("undo of a start of one that is there already", started.undo(), 1);
        expect.that("busy still", started.channel(0, 0), 1);
        expect.that("undo of its first start", started.undo(), 0);
        expect.that("idle again", started.channel(0, 0), 0);
    }

    /** "Before each action, the state is remembered"; "Takes back the last action that is remembered." */
    private static void undoOfEachAction() {
        checkUndo("poke", x -> x.poke(0, 9));
        checkUndo("order", x -> x.order(0, 1, 2, 3, 4));
        checkUndo("own", x -> x.own(50, 40, 3));
        checkUndo("start of a busy one", x -> x.start(0, 40));
        checkUndo("start of a done one", x -> x.start(1, 40));
        checkUndo("start of a faulty one", x -> x.start(2, 40));
        checkUndo("stop", x -> x.stop(0));
        checkUndo("run of one tick", x -> x.run(1));
        checkUndo("run to the end", x -> x.run(99));
    }

    /** "Each call of one of them that does not throw an exception is an action". */
    private static void refusedCallsAreNoActions() {
        OrderChains x = poked(MOST_STATES);
        expect.fails("poke", Engines.ARGUMENT, () -> x.poke(0, 100));
        expect.fails("order", Engines.ARGUMENT, () -> x.order(91, 0, 0, 0, 0));
        expect.fails("own", Engines.ARGUMENT, () -> x.own(0, 0, 0));
        expect.fails("start", Engines.INDEX, () -> x.start(0, 96));
        expect.fails("stop", Engines.STATE, () -> x.stop(0));
        expect.fails("run", Engines.STATE, () -> x.run(1));
        for (int left = MOST_STATES - 1; left >= 0; left--) {
            expect.that("states left", x.undo(), left);
        }
        expect.that("no state was forgotten", x.cell(0, 0), 0);
    }

    /** "The methods in the section "actions"": no other is an action. */
    private static void questionsAreNoActions() {
        OrderChains x = poked(MOST_STATES);
        x.append('E');
        x.errorPosition();
        x.clearText();
        x.about(0);
        x.cell(0, 0);
        x.channel(0, 0);
        x.chain(0, 0);
        x.ends(0);
        x.endOf(0);
        x.later(0, 500);
        x.contested(500);
        x.firstEdit();
        x.alone(0);
        x.runScript(1, 10099);
        x.simulate(1, 50);
        x.save(0);
        for (int left = MOST_STATES - 1; left >= 0; left--) {
            expect.that("states left", x.undo(), left);
        }
        expect.that("no state was forgotten", x.cell(0, 0), 0);
    }

    /** "load and restore are not actions." */
    private static void loadAndRestoreAreNoActions() {
        OrderChains x = poked(2);
        x.append('E');
        x.load();
        expect.fails("undo of load", Engines.STATE, () -> x.undo());
        x.save(1);
        x.poke(0, 4);
        x.restore(1);
        expect.fails("undo of restore", Engines.STATE, () -> x.undo());
        x.poke(0, 5);
        expect.that("undo of the action behind them", x.undo(), 0);
    }

    /** "the state, which consists of everything but the text and the save slots". */
    private static void undoKeepsTheTextAndTheSlots() {
        OrderChains x = new OrderChains();
        x.poke(0, 1);
        x.append('E');
        x.save(0);
        x.poke(0, 2);
        x.append('0');
        x.save(1);
        x.undo();
        x.undo();
        expect.that("the text", x.clearText(), 2);
        x.restore(1);
        expect.that("the slot 1", x.cell(0, 0), 2);
        x.restore(0);
        expect.that("the slot 0", x.cell(0, 0), 1);
    }
}
