/** Promises 23 and 24: scripts and simulations. */
public final class ScriptTest {
    private static final Expect expect = new Expect("ScriptTest");
    private static final int NONE = OrderChains.NONE;

    public static void main(String[] args) {
        promise23Pokes();
        promise23Runs();
        promise23StartsAndStops();
        promise23Owners();
        promise23Questions();
        promise23OtherGroups();
        promise23ManyCommands();
        promise24OneRound();
        promise24Starts();
        promise24Rounds();
        expect.finish();
    }

    private static OrderChains busy() {
        return Engines.loaded("E030150050112s000");
    }

    private static void check(OrderChains x, int n, long script, int due) {
        expect.that("runScript(" + n + ", " + script + ")", x.runScript(n, script), due);
    }

    private static void promise23Pokes() {
        OrderChains x = new OrderChains();
        check(x, 1, 10000, NONE);
        check(x, 1, 19599, NONE);
        check(x, 1, 19600, 0);
        check(x, 1, 19999, 0);
        check(x, 2, 1953669536L, NONE);
        check(x, 2, 1953669537L, 1);
        check(x, 2, 1953669436L, 1);
        check(x, 3, 195366953719500L, 1);
        check(x, 3, 195361950669506L, NONE);
        expect.that("a script works on a copy", x.cell(95, 0), 0);
    }

    private static void promise23Runs() {
        OrderChains x = new OrderChains();
        check(x, 1, 20001, 0);
        check(x, 1, 20099, 0);
        OrderChains y = busy();
        check(y, 1, 20000, 0);
        check(y, 1, 20001, NONE);
        check(y, 1, 20099, NONE);
        check(y, 1, 20101, 0);
        check(y, 1, 21001, 0);
        check(y, 1, 29901, 0);
        check(y, 2, 2000565401L, 1);
        check(y, 2, 2000565400L, NONE);
        check(y, 2, 2000565301L, NONE);
        check(y, 2, 2000665401L, NONE);
        check(y, 2, 2000665400L, 1);
        check(y, 2, 2000670001L, NONE);
        check(y, 2, 2000670002L, 1);
        check(y, 2, 2000770002L, NONE);
        check(y, 2, 2000770001L, 1);
        check(y, 2, 2009920001L, 1);
        check(y, 2, 2000680005L, NONE);
        check(y, 2, 2000580005L, 1);
        expect.that("no tick by scripts", y.about(0), 0);
    }

    private static void promise23StartsAndStops() {
        OrderChains x = new OrderChains();
        check(x, 1, 30000, NONE);
        check(x, 1, 32950, NONE);
        check(x, 1, 32960, 0);
        check(x, 1, 33000, 0);
        check(x, 1, 39000, 0);
        check(x, 1, 30001, 0);
        check(x, 1, 30129, 0);
        check(x, 1, 40000, 0);
        check(x, 2, 3195071001L, NONE);
        check(x, 2, 3195070001L, 1);
        check(x, 3, 319502000171003L, NONE);
        check(x, 3, 319002000171002L, NONE);
        check(x, 3, 319002000171003L, 2);
        check(x, 2, 3112041000L, NONE);
        check(x, 2, 3112040000L, 1);
        check(x, 2, 3112042000L, 1);
        check(x, 2, 3112041001L, 1);
        check(x, 2, 3112041010L, 1);
        check(x, 2, 3112041100L, 1);
        check(x, 3, 311204100071000L, NONE);
        check(x, 3, 311204100041000L, 2);
        check(x, 1, 43000, 0);
        check(x, 1, 49000, 0);
        OrderChains y = Engines.loaded("E@5007@2003019901s000");
        check(y, 3, 305002000170003L, NONE);
        check(y, 3, 305002000170002L, 2);
        check(y, 3, 302002000270003L, NONE);
        expect.that("no start by scripts", x.channel(1, 0), 0);
    }

    private static void promise23Owners() {
        OrderChains x = busy();
        check(x, 1, 50001, NONE);
        check(x, 1, 50000, 0);
        check(x, 1, 59539, NONE);
        check(x, 1, 59639, 0);
        check(x, 1, 50041, 0);
        check(x, 1, 50091, 0);
        check(x, 1, 50035, NONE);
        check(x, 3, 550212009970003L, NONE);
        check(x, 3, 550112009970002L, NONE);
        check(x, 3, 550012009970002L, NONE);
        check(x, 3, 549212009970003L, 2);
        check(x, 3, 549222009970003L, NONE);
        check(x, 3, 546292009970003L, NONE);
        check(x, 3, 541292009970003L, 2);
        expect.that("no owner by scripts", x.about(9), 0);
    }

    private static void promise23Questions() {
        OrderChains x = Engines.loaded("E030102030112@9509s000s190s291");
        check(x, 1, 60003, NONE);
        x.poke(70, 25);
        x.poke(71, 52);
        check(x, 2, 6702567152L, NONE);
        check(x, 1, 67052, 0);
        check(x, 1, 67125, 0);
        check(x, 1, 60004, 0);
        check(x, 1, 69509, NONE);
        check(x, 1, 69500, 0);
        check(x, 1, 69600, 0);
        check(x, 1, 69900, 0);
        check(x, 1, 70001, NONE);
        check(x, 1, 70000, 0);
        check(x, 1, 73000, 0);
        check(x, 1, 79001, 0);
        check(x, 1, 70011, 0);
        check(x, 1, 70101, 0);
        check(x, 1, 70009, 0);
        check(x, 1, 80000, NONE);
        check(x, 1, 80001, 0);
        check(x, 1, 83000, 0);
        check(x, 1, 89000, 0);
        check(x, 1, 80100, 0);
        check(x, 1, 90000, NONE);
        check(x, 1, 90099, NONE);
        check(x, 1, 90100, 0);
        check(x, 1, 91000, 0);
        x.run(99);
        check(x, 1, 70002, NONE);
        check(x, 1, 71002, NONE);
        check(x, 1, 72003, NONE);
        check(x, 1, 72002, 0);
        check(x, 1, 80003, NONE);
        check(x, 1, 80002, NONE);
        check(x, 1, 80004, 0);
        check(x, 1, 81000, NONE);
        check(x, 1, 81001, 0);
        check(x, 1, 90003, NONE);
        check(x, 1, 90002, 0);
        check(x, 1, 90004, NONE);
    }

    private static void promise23OtherGroups() {
        OrderChains x = busy();
        for (int group = 0; group < 10000; group += 137) {
            check(x, 1, group, 0);
        }
        check(x, 2, 12345, 0);
        check(x, 2, 1000000000L, 1);
        check(x, 3, 20001, 0);
        check(x, 3, 100000000000000L, 1);
        check(x, 3, 100001000000000L, 2);
        check(x, 3, 100001000010000L, NONE);
    }

    private static void promise23ManyCommands() {
        OrderChains x = busy();
        check(x, 3, 200026505020003L, 1);
        check(x, 3, 200026500020003L, 1);
        check(x, 3, 200026500120003L, NONE);
        check(x, 3, 150072000365007L, 2);
        check(x, 3, 150072000165007L, NONE);
        check(x, 3, 400007000070000L, NONE);
        check(x, 3, 400002000199999L, 1);
        check(x, 3, 960009999920001L, 0);
        expect.that("ticks behind all scripts", x.about(0), 0);
        expect.fails("a script is no action", Engines.STATE, () -> x.undo());
    }

    private static void promise24OneRound() {
        OrderChains x = new OrderChains();
        int r = 128 * 137;
        expect.that("value 37, no start", x.simulate(Seeds.thatGives(r), 1), 37);
        x.poke(r % 96, 50);
        expect.that("value 37 over 50", x.simulate(Seeds.thatGives(r), 1), 37);
        x.poke((r + 1) % 96, 50);
        expect.that("value 37 beside 50", x.simulate(Seeds.thatGives(r), 1), 87);
        expect.that("a simulation works on a copy", x.cell(r % 96, 0), 50);
        expect.that("a simulation is no action", x.undo(), 1);
    }

    private static void promise24Starts() {
        for (int head = 0; head < 91; head++) {
            for (int h = 0; h < 3; h++) {
                OrderChains x = new OrderChains();
                x.poke(head, 7);
                // r / 65536 % 3 is h for one of four values of the bits 16 and 17.
                int r = -1;
                for (int bits = 0; bits < 4 && r < 0; bits++) {
                    int candidate = 262144 * head + 65536 * bits;
                    boolean apart = candidate % 96 < head || candidate % 96 > head + 5;
                    if (candidate / 65536 % 3 == h && apart) {
                        r = candidate;
                    }
                }
                if (r >= 0) {
                    int due = 10000 + 7 + r / 128 % 100;
                    expect.that("start of " + h + " at " + head, x.simulate(Seeds.thatGives(r), 1), due);
                    expect.that("no start by a simulation", x.channel(h, 0), 0);
                }
            }
        }
        OrderChains y = new OrderChains();
        y.start(1, 95);
        y.run(1);
        expect.that("a fault that was", y.simulate(Seeds.thatGives(16384), 1), 10028);
        OrderChains z = Engines.loaded("E@20040150990020s020");
        expect.that("eight ticks: seven units", z.simulate(Seeds.thatGives(16384), 1), z.about(5) + 28 + 7);
    }

    private static void promise24Rounds() {
        OrderChains x = Engines.loaded("E030150990112s000@3005102030120030s130");
        for (int m = 1; m <= 50; m++) {
            PlainModel model = new PlainModel();
            String text = "E030150990112s000@3005102030120030s130";
            for (int i = 0; i < text.length(); i++) {
                model.append(text.charAt(i));
            }
            model.load();
            expect.that("simulate(9, " + m + ")", x.simulate(9, m), model.simulate(9, m));
        }
    }
}
