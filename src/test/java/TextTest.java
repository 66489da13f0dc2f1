/** Promises 1 to 5: a new object, and its text. */
public final class TextTest {
    private static final Expect expect = new Expect("TextTest");

    public static void main(String[] args) {
        promise1NewObject();
        promise3ClearText();
        promise4Engines();
        promise4ErrorPositions();
        promise5Load();
        promise5LoadReplacesEverything();
        promise5LoadFails();
        promise5TextsAreReadAnew();
        expect.finish();
    }

    private static void promise1NewObject() {
        OrderChains x = new OrderChains();
        int[] due = {0, 0, 0, 0, OrderChains.NONE, 0, 0, 0, 0, 0};
        for (int what = 0; what < due.length; what++) {
            expect.that("new: about(" + what + ")", x.about(what), due[what]);
        }
        for (int c = 0; c < 96; c++) {
            expect.that("new: value of " + c, x.cell(c, 0), 0);
            expect.that("new: owner of " + c, x.cell(c, 1), 0);
            expect.that("new: mark of " + c, x.cell(c, 2), 0);
            expect.that("new: writer of " + c, x.cell(c, 3), OrderChains.NONE);
        }
        int[] idle = {0, 0, -9, -9, -9, 0, 0, 0};
        for (int h = 0; h < 3; h++) {
            for (int what = 0; what < idle.length; what++) {
                expect.that("new: channel(" + h + ", " + what + ")", x.channel(h, what), idle[what]);
            }
        }
        expect.that("new: clearText", x.clearText(), 0);
        expect.fails("new: undo", Engines.STATE, () -> x.undo());
        expect.fails("new: restore(0)", Engines.STATE, () -> x.restore(0));
        expect.fails("new: restore(1)", Engines.STATE, () -> x.restore(1));
    }

    private static void promise3ClearText() {
        OrderChains x = new OrderChains();
        expect.that("clearText without text", x.clearText(), 0);
        Engines.type(x, "E12x");
        expect.that("clearText of E12x", x.clearText(), 4);
        expect.that("clearText again", x.clearText(), 0);
        Engines.type(x, "E");
        expect.that("text behind clearText", x.errorPosition(), OrderChains.NONE);
        x.poke(3, 7);
        x.save(0);
        x.clearText();
        expect.that("clearText changes no cell", x.cell(3, 0), 7);
        expect.that("clearText keeps the slots", x.restore(0), 0);
        x.poke(4, 8);
        x.clearText();
        expect.that("clearText keeps the remembered states", x.undo(), 0);
    }

    private static void promise4Engines() {
        String[] engines = {
            "E", "E00", "E99", "E@00", "E@95", "E@9599", "Eo0", "Eo3", "Es000", "Es295", "E@1011o222o333@10",
            "Es000s100s200", "Es200s000", "E@95@95@00", "E@9501@9502", "Eo1o2o3o0", "E@0912s112@95"};
        for (String text : engines) {
            checkText(text, OrderChains.NONE);
        }
    }

    private static void promise4ErrorPositions() {
        checkText("", 0);
        checkText("e", 0);
        checkText("0", 0);
        checkText("@", 0);
        checkText("E ", 1);
        checkText("EE", 1);
        checkText("E/", 1);
        checkText("E:", 1);
        checkText("EO", 1);
        checkText("E0", 2);
        checkText("E0/", 2);
        checkText("E0:", 2);
        checkText("E0@", 2);
        checkText("E@", 2);
        checkText("E@a", 2);
        checkText("E@9", 3);
        checkText("E@96", 3);
        checkText("E@95:", 4);
        checkText("E@9x", 3);
        checkText("E@9500", OrderChains.NONE);
        checkText("E@95001", 6);
        checkText("E@9500@", 7);
        checkText("E@950000", 6);
        checkText("E@9500s000", OrderChains.NONE);
        checkText("E@9500o1", OrderChains.NONE);
        checkText("E@9500@0000", OrderChains.NONE);
        checkText("Eo", 2);
        checkText("Eo4", 2);
        checkText("Eo/", 2);
        checkText("Eo1", OrderChains.NONE);
        checkText("Eo12", 4);
        checkText("Es", 2);
        checkText("Es3", 2);
        checkText("Es/", 2);
        checkText("Es0", 3);
        checkText("Es0x", 3);
        checkText("Es00", 4);
        checkText("Es096", 4);
        checkText("Es09:", 4);
        checkText("Es000s", 6);
        checkText("Es000s0", 6);
        checkText("Es000s100s1", 10);
        checkText("Es000s1", 7);
        checkText("E" + (char) 255, 1);
        checkText("E" + (char) 0, 1);
        checkText("E0000x00E", 5);
    }

    private static void checkText(String text, int due) {
        OrderChains x = new OrderChains();
        Engines.type(x, text);
        expect.that("errorPosition of " + text, x.errorPosition(), due);
        expect.that("errorPosition again of " + text, x.errorPosition(), due);
        expect.that("sum behind errorPosition of " + text, x.about(5), 0);
        if (due == OrderChains.NONE) {
            x.load();
        } else {
            expect.fails("load of " + text, Engines.STATE, () -> x.load());
        }
        expect.that("length kept of " + text, x.clearText(), text.length());
    }

    private static void promise5Load() {
        OrderChains x = new OrderChains();
        Engines.type(x, "E0102o203@9004o105s290s112");
        expect.that("load", x.load(), 2);
        int[][] cells = {{0, 1, 0}, {1, 2, 0}, {2, 3, 2}, {3, 0, 0}, {90, 4, 2}, {91, 5, 1}, {92, 0, 0}};
        for (int[] due : cells) {
            expect.that("loaded value of " + due[0], x.cell(due[0], 0), due[1]);
            expect.that("loaded owner of " + due[0], x.cell(due[0], 1), due[2]);
        }
        expect.that("loaded: channel 0", x.channel(0, 0), 0);
        expect.that("loaded: channel 1", x.channel(1, 0), 1);
        expect.that("loaded: head of 1", x.channel(1, 1), 12);
        expect.that("loaded: channel 2", x.channel(2, 0), 1);
        expect.that("loaded: head of 2", x.channel(2, 1), 90);
        expect.that("loaded: next tick", x.about(4), 1);
        Engines.type(x, "Eo10102@00o203");
        expect.that("load without channels", x.load(), 0);
        expect.that("a cell told twice: value", x.cell(0, 0), 3);
        expect.that("a cell told twice: owner", x.cell(0, 1), 2);
        expect.that("a cell told once: owner", x.cell(1, 1), 1);
        Engines.type(x, "Es000s100s200");
        expect.that("load of three channels", x.load(), 3);
        expect.that("load again", x.load(), 3);
        Engines.type(x, "E");
        expect.that("load of E", x.load(), 0);
    }

    private static void promise5LoadReplacesEverything() {
        OrderChains x = new OrderChains();
        x.order(0, 3, 7, 2, 3);
        x.own(40, 5, 2);
        x.start(0, 0);
        x.start(1, 93);
        x.start(2, 50);
        x.run(5);
        x.save(0);
        x.save(1);
        Engines.type(x, "E");
        x.load();
        expect.same("everything behind a load of E", Engines.everything(x), Engines.everything(new OrderChains()));
        expect.fails("undo behind load", Engines.STATE, () -> x.undo());
        expect.fails("restore(0) behind load", Engines.STATE, () -> x.restore(0));
        expect.fails("restore(1) behind load", Engines.STATE, () -> x.restore(1));
        expect.that("load keeps the text", x.clearText(), 1);
        x.start(0, 0);
        x.start(2, 0);
        expect.that("turns begin anew behind load", x.about(4), 0);
    }

    /** What earlier texts and looks ahead left must not show in an engine that is loaded later. */
    private static void promise5TextsAreReadAnew() {
        String blank = Engines.brief(new OrderChains());
        OrderChains x = new OrderChains();
        Engines.type(x, "Eo3030102030112s030s140s291@400101");
        x.load();
        x.run(3);
        x.ends(0);
        x.errorPosition();
        Engines.type(x, "E");
        x.load();
        expect.same("all behind an engine", Engines.brief(x), blank);
        x.order(0, 3, 7, 1, 3);
        x.start(1, 0);
        x.firstEdit();
        x.load();
        expect.same("all behind a look ahead", Engines.brief(x), blank);
        x.start(2, 0);
        x.start(0, 0);
        expect.that("behind a look ahead turns begin anew", x.about(4), 0);
        Engines.type(x, "E@50o20708s2105");
        x.errorPosition();
        Engines.type(x, "E09s212");
        expect.that("errorPosition behind a wrong text", x.errorPosition(), OrderChains.NONE);
        x.load();
        expect.that("the cell is 0 again", x.cell(0, 0), 9);
        expect.that("the owner is nobody again", x.cell(0, 1), 0);
        expect.that("no other cell has a value", x.about(5), 9);
    }

    private static void promise5LoadFails() {
        OrderChains x = new OrderChains();
        x.poke(5, 6);
        x.save(1);
        Engines.type(x, "E0102s0");
        expect.fails("load of a text that ends too soon", Engines.STATE, () -> x.load());
        expect.that("a failed load keeps the cells", x.cell(5, 0), 6);
        expect.that("a failed load sets no cell", x.cell(0, 0), 0);
        expect.that("a failed load keeps the states", x.undo(), 0);
        expect.that("a failed load keeps the slots", x.restore(1), 0);
        expect.that("the slot's cell", x.cell(5, 0), 6);
    }
}
