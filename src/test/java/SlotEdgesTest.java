/** The sentences of promises 25 and 26 that name a boundary, and of the 512 calls: a test for each. */
public final class SlotEdgesTest {
    private static final Expect expect = new Expect("SlotEdgesTest");

    public static void main(String[] args) {
        saveInSlot0And1();
        saveAheadOfTheFirstTick();
        saveOverWhatWasSaved();
        saveIsNoAction();
        restoreFromSlot0And1();
        restoreOfAnEmptySlot();
        restoreBehindLoad();
        restoreBehindARefusedLoad();
        restoreReturnsTheTicks();
        restoreKeepsTheSlot();
        restoreForgetsAllRememberedStates();
        restoreKeepsTheText();
        restoreOfTheWholeState();
        actionsAndUndoKeepTheSlots();
        the512thCall();
        expect.finish();
    }

    /** "slot: 0 or 1"; "IndexOutOfBoundsException if there is no such save slot". */
    private static void saveInSlot0And1() {
        OrderChains x = new OrderChains();
        expect.that("save(0)", x.save(0), 0);
        expect.that("save(1)", x.save(1), 0);
        for (int slot : Engines.NOT_SLOTS) {
            expect.fails("save(" + slot + ")", Engines.INDEX, () -> x.save(slot));
        }
    }

    /** "Returns the ticks so far." */
    private static void saveAheadOfTheFirstTick() {
        OrderChains x = Engines.ordered(0, 0, 4, 1, 50, 99, 0, 30);
        expect.that("ahead of the first tick", x.save(0), 0);
        x.run(1);
        expect.that("behind it", x.save(0), 1);
        x.run(99);
        expect.that("behind a hundred", x.save(1), 100);
        x.run(99);
        expect.that("behind the last one", x.save(1), 101);
    }

    /** "Stores the present state in a save slot." */
    private static void saveOverWhatWasSaved() {
        OrderChains x = new OrderChains();
        x.poke(0, 1);
        x.save(0);
        x.save(1);
        x.poke(0, 2);
        x.save(0);
        x.poke(0, 3);
        x.restore(0);
        expect.that("the slot 0 has the later state", x.cell(0, 0), 2);
        x.restore(1);
        expect.that("the slot 1 has its own", x.cell(0, 0), 1);
    }

    /** "the section "actions"": save is not in it. */
    private static void saveIsNoAction() {
        OrderChains x = new OrderChains();
        x.save(0);
        expect.fails("undo of save", Engines.STATE, () -> x.undo());
        x.poke(0, 1);
        x.save(1);
        expect.that("undo of the action", x.undo(), 0);
        expect.that("the state before it", x.cell(0, 0), 0);
    }

    /** "IndexOutOfBoundsException if there is no such save slot". */
    private static void restoreFromSlot0And1() {
        OrderChains x = new OrderChains();
        x.save(0);
        x.save(1);
        expect.that("restore(0)", x.restore(0), 0);
        expect.that("restore(1)", x.restore(1), 0);
        for (int slot : Engines.NOT_SLOTS) {
            expect.fails("restore(" + slot + ")", Engines.INDEX, () -> x.restore(slot));
        }
    }

    /** "IllegalStateException if nothing has been saved in it". */
    private static void restoreOfAnEmptySlot() {
        for (int slot = 0; slot <= 1; slot++) {
            int empty = slot;
            OrderChains x = new OrderChains();
            expect.fails("restore of an empty slot", Engines.STATE, () -> x.restore(empty));
            x.save(1 - slot);
            expect.fails("restore of it beside a full one", Engines.STATE, () -> x.restore(empty));
            x.save(slot);
            expect.that("restore of it when it is full", x.restore(slot), 0);
        }
    }

    /** "since the last load". */
    private static void restoreBehindLoad() {
        OrderChains x = Engines.typed("E");
        x.save(0);
        x.save(1);
        x.load();
        expect.fails("restore(0) behind load", Engines.STATE, () -> x.restore(0));
        expect.fails("restore(1) behind load", Engines.STATE, () -> x.restore(1));
        x.save(1);
        expect.fails("restore(0) behind a save of 1", Engines.STATE, () -> x.restore(0));
        expect.that("restore(1) behind a save of 1", x.restore(1), 0);
    }

    /** "A call that throws an exception changes nothing." */
    private static void restoreBehindARefusedLoad() {
        OrderChains x = Engines.typed("E0");
        x.poke(0, 4);
        x.save(0);
        x.save(1);
        expect.fails("load", Engines.STATE, () -> x.load());
        expect.that("restore(0) behind a refused load", x.restore(0), 0);
        expect.that("restore(1) behind a refused load", x.restore(1), 0);
        expect.that("the value that was saved", x.cell(0, 0), 4);
    }

    /** "Returns the ticks so far, then." */
    private static void restoreReturnsTheTicks() {
        OrderChains x = Engines.ordered(0, 0, 4, 1, 50, 99, 0, 30);
        x.save(0);
        x.run(7);
        x.save(1);
        x.run(5);
        expect.that("restore to the first state", x.restore(0), 0);
        expect.that("ticks then", x.about(0), 0);
        expect.that("restore to a later one", x.restore(1), 7);
        expect.that("ticks then", x.about(0), 7);
    }

    /** "The save slot keeps it." */
    private static void restoreKeepsTheSlot() {
        OrderChains x = Engines.ordered(0, 0, 4, 1, 50, 99, 0, 30);
        x.run(3);
        x.save(0);
        for (int time = 0; time < 3; time++) {
            x.run(9);
            x.poke(0, 50 + time);
            x.own(0, 96, 2);
            expect.that("restore again", x.restore(0), 3);
            expect.that("value", x.cell(0, 0), 4);
            expect.that("owner", x.cell(0, 1), 0);
            expect.that("units", x.channel(0, 5), 2);
        }
    }

    /** "forgets all remembered states". */
    private static void restoreForgetsAllRememberedStates() {
        OrderChains x = new OrderChains();
        for (int v = 1; v <= 14; v++) {
            x.poke(0, v);
        }
        x.save(0);
        x.restore(0);
        expect.fails("undo behind restore", Engines.STATE, () -> x.undo());
        for (int v = 1; v <= 14; v++) {
            x.poke(1, v);
        }
        for (int left = 13; left >= 0; left--) {
            expect.that("states left", x.undo(), left);
        }
        expect.that("the restored state", x.cell(1, 0), 0);
        expect.that("the restored state", x.cell(0, 0), 14);
    }

    /** "the state, which consists of everything but the text and the save slots". */
    private static void restoreKeepsTheText() {
        OrderChains x = Engines.typed("E01");
        x.save(0);
        x.append('0');
        x.append('2');
        x.restore(0);
        expect.that("the text", x.clearText(), 5);
        x.restore(0);
        expect.that("no text", x.append('E'), 1);
    }

    private static OrderChains scene() {
        OrderChains x = Engines.loaded("E033350090112@6077o201s000s112s295");
        x.run(7);
        return x;
    }

    /** "Replaces the state by the one in a save slot". */
    private static void restoreOfTheWholeState() {
        for (int slot = 0; slot <= 1; slot++) {
            OrderChains x = scene();
            x.save(slot);
            x.run(2);
            x.own(0, 96, 3);
            x.order(30, 1, 2, 3, 4);
            x.start(0, 1);
            x.start(1, 2);
            x.start(2, 3);
            x.run(2);
            x.restore(slot);
            expect.same("the state behind restore", Engines.everything(x), Engines.everything(scene()));
            OrderChains y = scene();
            x.run(4);
            y.run(4);
            expect.that("the order in hand goes on: units", x.channel(0, 5), y.channel(0, 5));
            expect.that("the order in hand goes on: value", x.cell(57, 0), y.cell(57, 0));
        }
    }

    /** "the state, which consists of everything but .. the save slots": actions and undo leave them. */
    private static void actionsAndUndoKeepTheSlots() {
        OrderChains x = Engines.ordered(0, 0, 4, 1, 50, 99, 0, 30);
        x.save(0);
        x.poke(0, 9);
        x.order(10, 1, 2, 3, 4);
        x.own(0, 96, 1);
        x.start(1, 3);
        x.stop(1);
        x.run(9);
        x.undo();
        x.undo();
        x.simulate(3, 50);
        x.runScript(1, 20009);
        expect.that("restore", x.restore(0), 0);
        expect.cells(x, 0, 4, 1, 50, 99, 0, 30);
        expect.cells(x, 10, 0, 0, 0, 0, 0, 0);
        expect.that("owned cells", x.about(9), 0);
        expect.that("busy channels", x.about(1), 1);
    }

    /** "An object is used for at most 512 calls after it has been made": the last one is answered as the first. */
    private static void the512thCall() {
        OrderChains x = new OrderChains();
        for (int call = 1; call <= Engines.MOST_CALLS; call++) {
            expect.that("call " + call, x.poke(call % 96, call % 100), call <= 96 ? 0 : (call - 96) % 100);
        }
        OrderChains y = new OrderChains();
        for (int call = 1; call < Engines.MOST_CALLS; call++) {
            expect.that("call " + call, y.simulate(call, 1) >= 0 ? 1 : 0, 1);
        }
        expect.fails("call 512", Engines.STATE, () -> y.undo());
    }
}
