/** Promises 17 to 22: what would be. */
public final class LookAheadTest {
    private static final Expect expect = new Expect("LookAheadTest");

    public static void main(String[] args) {
        promise17Ends();
        promise18EndOf();
        promise19Later();
        promise20Contested();
        promise21FirstEdit();
        promise22Alone();
        expect.finish();
    }

    private static void promise17Ends() {
        OrderChains x = Engines.loaded("E030150020112@2003015002@2512s000s120");
        expect.that("ends(0)", x.ends(0), 7);
        expect.that("ends(1)", x.ends(1), 8);
        expect.that("ends(2) of an idle one", x.ends(2), 0);
        x.run(7);
        expect.that("ends(0) of a done one", x.ends(0), 0);
        expect.that("ends(1) at last", x.ends(1), 1);
        x.start(2, 91);
        x.run(1);
        expect.that("ends(2) of a busy one", x.ends(2), 1);
        x.run(9);
        expect.that("ends(2) of a faulty one", x.ends(2), 0);
    }

    private static void promise18EndOf() {
        OrderChains x = Engines.loaded("E07@20039900050106@3003013001@4003996001s000s120s291");
        expect.that("endOf: a kind above 6", x.endOf(0), 2);
        expect.that("endOf: a head above 90", x.endOf(2), 1);
        OrderChains y = Engines.loaded("E030195020112o3@50000102@20o0030150020112@30009900s000s120s230");
        expect.that("endOf: a cell above 95", y.endOf(0), 3);
        expect.that("endOf: a foreign cell", y.endOf(1), 4);
        expect.that("endOf: done", y.endOf(2), 0);
        y.run(99);
        expect.that("endOf now: a cell above 95", y.endOf(0), 3);
        expect.that("endOf now: a foreign cell", y.endOf(1), 4);
        expect.that("endOf now: done", y.endOf(2), 0);
        y.start(2, 30);
        y.stop(2);
        expect.that("endOf: idle", y.endOf(2), OrderChains.NONE);
        OrderChains z = Engines.loaded("E010000000000s000");
        expect.that("endOf: for ever", z.endOf(0), OrderChains.NONE);
        expect.that("ends: for ever", z.ends(0), OrderChains.NONE);
        expect.that("endOf: idle beside a busy one", z.endOf(1), OrderChains.NONE);
    }

    private static void promise19Later() {
        OrderChains x = Engines.loaded("E040150990000s000");
        expect.that("later(50, 0)", x.later(50, 0), 0);
        expect.that("later(50, 1)", x.later(50, 1), 0);
        expect.that("later(50, 2)", x.later(50, 2), 1);
        expect.that("later(50, 100)", x.later(50, 100), 99);
        expect.that("later(50, 101)", x.later(50, 101), 99);
        expect.that("later(50, 102)", x.later(50, 102), 0);
        expect.that("later(50, 499)", x.later(50, 499), (499 - 5) % 100);
        expect.that("later(50, 500)", x.later(50, 500), (500 - 5) % 100);
        expect.that("later(95, 500)", x.later(95, 500), 0);
        expect.that("later of its own cell", x.later(0, 0), 4);
        x.run(50);
        expect.that("later from then on", x.later(50, 1), 50);
        x.stop(0);
        expect.that("later without ticks", x.later(50, 500), 49);
    }

    private static void promise20Contested() {
        OrderChains y = Engines.loaded("E030150040190@10030152040190@20030253010190s000s110s220");
        expect.that("y: contested(0)", y.contested(0), 0);
        expect.that("y: contested(7)", y.contested(7), 0);
        expect.that("y: contested(8)", y.contested(8), 1);
        expect.that("y: contested(9)", y.contested(9), 1);
        expect.that("y: contested(10)", y.contested(10), 2);
        expect.that("y: contested(500)", y.contested(500), 2);
        y.run(9);
        expect.that("y: writes that were count no more", y.contested(500), 0);
        OrderChains z = Engines.loaded("E030150000190@10055050010190@20033350010190s000s110s220");
        expect.that("z: an exchange of one cell is no write", z.contested(500), 0);
        OrderChains w = Engines.loaded("E055060010190@10033360010190@20033350010190s000s110s220");
        expect.that("w: both cells of an exchange", w.contested(500), 2);
        OrderChains v = Engines.loaded("E030150090090@10035052010190s000s110");
        expect.that("v: one channel alone writes a cell often", v.contested(500), 0);
        OrderChains t = Engines.loaded("E@10030100010190@20030200010190s110s220");
        expect.that("t: cell 0", t.contested(500), 1);
        OrderChains s = Engines.loaded("E@10030195010190@20030295010190s110s220");
        expect.that("s: cell 95", s.contested(500), 1);
        OrderChains u = Engines.loaded("E030150010112@12030150010190s000");
        u.run(9);
        u.start(1, 12);
        expect.that("u: a write before now is none of the next ticks", u.contested(500), 0);
    }

    private static void promise21FirstEdit() {
        OrderChains x = Engines.loaded("E030150030112@2003010401@2590s000s120");
        expect.that("firstEdit of channel 1 in cell 4", x.firstEdit(), 104);
        x.run(4);
        expect.that("firstEdit behind it", x.firstEdit(), OrderChains.NONE);
        OrderChains y = Engines.loaded("E050502010112s000");
        expect.that("firstEdit of an exchange: from first", y.firstEdit(), 5);
        OrderChains z = Engines.loaded("E055002010112s200");
        expect.that("firstEdit of an exchange: to alone", z.firstEdit(), 202);
        OrderChains w = Engines.loaded("E030150010112s000");
        expect.that("no edit", w.firstEdit(), OrderChains.NONE);
        w.start(0, 50);
        w.run(1);
        w.start(0, 0);
        expect.that("firstEdit of a cell that was read before", w.firstEdit(), 50);
        expect.that("firstEdit of a new object", new OrderChains().firstEdit(), OrderChains.NONE);
    }

    private static void promise22Alone() {
        OrderChains x = Engines.loaded("E030120090112@12030150020190@20000000s000s120s212");
        expect.that("alone(0)", x.alone(0), 11);
        expect.that("alone(2)", x.alone(2), 2);
        expect.that("alone(1)", x.alone(1), 0);
        x.run(12);
        expect.that("alone(0) counts from now on", x.alone(0), 11 - x.channel(0, 7));
        expect.that("some cells were written", x.channel(0, 7) > 0 ? 1 : 0, 1);
        x.run(99);
        expect.that("alone of a done one", x.alone(0), 0);
        x.stop(x.start(1, 0) == 2 ? 1 : 0);
        expect.that("alone of an idle one", x.alone(1), 0);
        OrderChains idle = Engines.loaded("E030101010090@12030150020190@24035500990024s000s112s224");
        for (int h = 0; h < 3; h++) {
            expect.that("alone(" + h + ") counts its own writes", idle.alone(h), h == 0 ? 1 : h == 1 ? 2 : 495);
        }
        OrderChains spoiling = Engines.loaded("E030030010190@12030150030130030160020190@30030160020190s000s112");
        expect.that("alone(1) though channel 0 would write into its second order", spoiling.alone(1), 5);
        spoiling.run(99);
        expect.that("with channel 0 it writes less", spoiling.channel(1, 7), 3);
        OrderChains y = Engines.loaded("E040150990000@1003000301@1590s000s110");
        expect.that("alone in 500 ticks of one's own", y.alone(0), 495);
        OrderChains z = Engines.loaded("E055060020112s000");
        expect.that("alone: an exchange writes two cells", z.alone(0), 4);
    }
}
