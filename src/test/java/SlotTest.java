/** Promises 25 and 26: save slots. */
public final class SlotTest {
    private static final Expect expect = new Expect("SlotTest");

    public static void main(String[] args) {
        promise25Save();
        promise26Restore();
        promise26RememberedStates();
        promise26EmptySlots();
        expect.finish();
    }

    private static void promise25Save() {
        OrderChains x = Engines.loaded("E030150200112s000");
        expect.that("save(0) ahead of the first tick", x.save(0), 0);
        x.run(7);
        expect.that("save(1)", x.save(1), 7);
        expect.that("save(0) again", x.save(0), 7);
        x.save(0);
        OrderChains untouched = Engines.loaded("E030150200112s000");
        untouched.run(7);
        expect.same("the state behind save", Engines.everything(x), Engines.everything(untouched));
    }

    private static void promise26Restore() {
        OrderChains x = Engines.loaded("E030150200112s000");
        x.run(3);
        x.save(0);
        x.run(4);
        x.save(1);
        x.run(5);
        expect.that("restore(0)", x.restore(0), 3);
        expect.that("ticks then", x.about(0), 3);
        expect.that("restore(1)", x.restore(1), 7);
        expect.that("ticks then", x.about(0), 7);
        x.run(1);
        expect.that("the slot keeps its state", x.restore(1), 7);
        expect.that("units in hand", x.channel(0, 5), 6);
        x.run(1);
        expect.that("units go on", x.channel(0, 5), 7);
        x.save(1);
        expect.that("a slot is replaced", x.restore(1), 8);
        expect.that("the other slot is not", x.restore(0), 3);
        expect.that("the text is kept", x.clearText(), 17);
    }

    private static void promise26RememberedStates() {
        OrderChains x = new OrderChains();
        x.poke(0, 1);
        x.save(0);
        x.poke(0, 2);
        expect.that("save keeps the remembered states", x.undo(), 1);
        x.restore(0);
        expect.fails("undo behind restore", Engines.STATE, () -> x.undo());
        expect.that("restore changes nothing by a failed undo", x.cell(0, 0), 1);
        x.poke(0, 3);
        expect.that("undo of an action behind restore", x.undo(), 0);
        expect.that("undo goes back to the restored state", x.cell(0, 0), 1);
        x.poke(0, 5);
        x.undo();
        x.restore(0);
        expect.that("undo keeps the slots", x.cell(0, 0), 1);
    }

    private static void promise26EmptySlots() {
        OrderChains x = new OrderChains();
        expect.fails("restore(0) of nothing", Engines.STATE, () -> x.restore(0));
        x.save(0);
        expect.fails("restore(1) of nothing", Engines.STATE, () -> x.restore(1));
        x.save(1);
        Engines.type(x, "E1");
        expect.fails("load", Engines.STATE, () -> x.load());
        expect.that("a failed load keeps slot 0", x.restore(0), 0);
        expect.that("a failed load keeps slot 1", x.restore(1), 0);
        Engines.type(x, "E11");
        x.load();
        expect.fails("restore(0) behind load", Engines.STATE, () -> x.restore(0));
        expect.fails("restore(1) behind load", Engines.STATE, () -> x.restore(1));
        x.save(1);
        expect.that("restore(1) behind load and save", x.restore(1), 0);
        expect.fails("restore(0) still of nothing", Engines.STATE, () -> x.restore(0));
    }
}
