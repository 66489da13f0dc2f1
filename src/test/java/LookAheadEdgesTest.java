/** The sentences of promises 17 to 22 that name a boundary: a test for each. */
public final class LookAheadEdgesTest {
    private static final Expect expect = new Expect("LookAheadEdgesTest");
    private static final int NONE = OrderChains.NONE;
    private static final int[] NOT_HORIZONS = {-1, 501, Integer.MIN_VALUE, Integer.MAX_VALUE};

    public static void main(String[] args) {
        endsOfChannel0To2();
        endsOfOneThatIsNotBusy();
        endsBehind1Tick();
        endsBehind500Ticks();
        endsOfOneThatNeverEnds();
        endsCountsTheTicksOfAllChannels();
        endOfChannel0To2();
        endOfNow();
        endOfBehind500Ticks();
        endOfAnIdleOne();
        laterFromCell0ToCell95();
        laterFrom0To500Ticks();
        laterBehind500Ticks();
        laterAsFarAsThereAreTicks();
        contestedFrom0To500Ticks();
        contestedByNoTick();
        contestedBehind500Ticks();
        contestedByTwoAndByThree();
        contestedFromNoneToAllCells();
        contestedByWhatWasWrittenBefore();
        contestedByAnExchangeOfOneCell();
        firstEditBehind500Ticks();
        firstEditOfEachChannelAndCell();
        firstEditIfThereIsNone();
        firstEditIsTheFirst();
        firstEditBeforeNow();
        aloneOfChannel0To2();
        aloneBehind500Ticks();
        aloneCountsACellTwice();
        aloneOfOneThatIsNotBusy();
        aloneWithoutTheOtherTwo();
        nothingChanges();
        expect.finish();
    }

    /**
     * Channel 0 is busy with four orders of 100 ticks each, reading with it, and with a fifth one of 1 + count ticks;
     * so the order at the cell 30 is read in the tick 402 + count, and its first unit is the tick 403 + count.
     */
    private static OrderChains longRun(int count, int... orderAt30) {
        OrderChains x = new OrderChains();
        for (int k = 0; k < 5; k++) {
            Engines.lay(x, 6 * k, 4, 1, 80, k < 4 ? 99 : count, 0, 6 * k + 6);
        }
        Engines.lay(x, 30, orderAt30);
        x.start(0, 0);
        return x;
    }

    /** "IndexOutOfBoundsException if there is no such channel". */
    private static void endsOfChannel0To2() {
        OrderChains x = new OrderChains();
        for (int h = 0; h <= 2; h++) {
            expect.that("ends(" + h + ")", x.ends(h), 0);
        }
        for (int h : Engines.NOT_CHANNELS) {
            expect.fails("ends(" + h + ")", Engines.INDEX, () -> x.ends(h));
        }
    }

    /** "(0 if it is not busy now)". */
    private static void endsOfOneThatIsNotBusy() {
        OrderChains x = Engines.loaded("E010000000000s000s112s295");
        x.run(3);
        expect.that("the condition of 1", x.channel(1, 0), 2);
        expect.that("ends of a done one", x.ends(1), 0);
        expect.that("the condition of 2", x.channel(2, 0), 3);
        expect.that("ends of a faulty one", x.ends(2), 0);
        x.stop(0);
        expect.that("ends of an idle one", x.ends(0), 0);
    }

    /** "behind how many ticks .. it is not busy any more". */
    private static void endsBehind1Tick() {
        int[][] orders = {{0, 0, 0, 0, 0, 0}, {7, 0, 0, 0, 0, 0}};
        for (int[] order : orders) {
            expect.that("ends of the kind " + order[0], Engines.ordered(1, 0, order).ends(1), 1);
        }
        expect.that("ends of a fault in the first unit", Engines.ordered(1, 0, 3, 0, 96, 1, 1, 0).ends(1), 2);
        OrderChains x = new OrderChains();
        x.start(2, 91);
        expect.that("ends of a head above 90", x.ends(2), 1);
    }

    /** "0 to 500 ..; NONE if there are more." */
    private static void endsBehind500Ticks() {
        expect.that("a stop in the tick 499", longRun(97).ends(0), 499);
        expect.that("a stop in the tick 500", longRun(98).ends(0), 500);
        OrderChains more = longRun(99);
        expect.that("a stop in the tick 501", more.ends(0), NONE);
        more.run(1);
        expect.that("the same, a tick later", more.ends(0), 500);
        expect.that("a fault in the tick 500", longRun(97, 3, 0, 96, 1, 1, 0).ends(0), 500);
        expect.that("a fault in the tick 501", longRun(98, 3, 0, 96, 1, 1, 0).ends(0), NONE);
    }

    /** The same. */
    private static void endsOfOneThatNeverEnds() {
        expect.that("an order that leads to itself", Engines.ordered(0, 0, 1, 0, 0, 0, 0, 0).ends(0), NONE);
    }

    /** "(of all channels)". */
    private static void endsCountsTheTicksOfAllChannels() {
        OrderChains x = Engines.loaded("E010000000000s012s112s200");
        expect.that("ends of the first", x.ends(0), 1);
        expect.that("ends of the second", x.ends(1), 2);
        expect.that("ends of the third, which never ends", x.ends(2), NONE);
        OrderChains y = Engines.loaded("E010000000000@12034050990018s000s112");
        expect.that("99 units beside another channel", y.ends(1), 2 * 101);
    }

    /** "IndexOutOfBoundsException if there is no such channel". */
    private static void endOfChannel0To2() {
        OrderChains x = Engines.loaded("Es000s100s200");
        for (int h = 0; h <= 2; h++) {
            expect.that("endOf(" + h + ")", x.endOf(h), 0);
        }
        for (int h : Engines.NOT_CHANNELS) {
            expect.fails("endOf(" + h + ")", Engines.INDEX, () -> x.endOf(h));
        }
    }

    /** "(or is so now)", "(or now)". */
    private static void endOfNow() {
        int[][] orders = {{0, 0, 0, 0, 0, 0}, {1, 0, 0, 0, 0, 95}, {7, 0, 0, 0, 0, 0}, {3, 1, 96, 1, 1, 0},
            {3, 1, 60, 1, 1, 0}};
        for (int cause = 0; cause < orders.length; cause++) {
            OrderChains x = Engines.ordered(1, 6, orders[cause]);
            x.own(60, 1, 3);
            expect.that("in the next ticks: cause " + cause, x.endOf(1), cause);
            x.run(99);
            expect.that("now: cause " + cause, x.endOf(1), cause);
        }
    }

    /** "if it becomes faulty in the next 500 ticks ..; 0 if it is done then ..; NONE otherwise." */
    private static void endOfBehind500Ticks() {
        int[][] orders = {{0, 0, 0, 0, 0, 0}, {7, 0, 0, 0, 0, 0}};
        int[] ends = {0, 2};
        for (int k = 0; k < orders.length; k++) {
            expect.that("an end in the tick 499", longRun(97, orders[k]).endOf(0), ends[k]);
            expect.that("an end in the tick 500", longRun(98, orders[k]).endOf(0), ends[k]);
            OrderChains more = longRun(99, orders[k]);
            expect.that("an end in the tick 501", more.endOf(0), NONE);
            more.run(1);
            expect.that("the same, a tick later", more.endOf(0), ends[k]);
        }
        expect.that("a fault of a unit in the tick 500", longRun(97, 3, 0, 96, 1, 1, 0).endOf(0), 3);
        expect.that("a fault of a unit in the tick 501", longRun(98, 3, 0, 96, 1, 1, 0).endOf(0), NONE);
    }

    /** "NONE otherwise." */
    private static void endOfAnIdleOne() {
        OrderChains x = new OrderChains();
        expect.that("idle at first", x.endOf(2), NONE);
        x.start(2, 91);
        x.run(1);
        x.start(2, 0);
        x.stop(2);
        expect.that("idle behind a fault", x.endOf(2), NONE);
        expect.that("for ever", Engines.ordered(0, 0, 1, 0, 0, 0, 0, 0).endOf(0), NONE);
    }

    /** "IndexOutOfBoundsException if there is no such cell". */
    private static void laterFromCell0ToCell95() {
        OrderChains x = new OrderChains();
        for (int c = 0; c < 96; c++) {
            x.poke(c, c);
            expect.that("later(" + c + ", 500)", x.later(c, 500), c);
        }
        for (int c : Engines.NOT_CELLS) {
            expect.fails("later(" + c + ", 0)", Engines.INDEX, () -> x.later(c, 0));
        }
    }

    /** "n: 0 to 500". */
    private static void laterFrom0To500Ticks() {
        OrderChains x = new OrderChains();
        expect.that("later(95, 0)", x.later(95, 0), 0);
        expect.that("later(95, 500)", x.later(95, 500), 0);
        for (int n : NOT_HORIZONS) {
            expect.fails("later(95, " + n + ")", Engines.ARGUMENT, () -> x.later(95, n));
        }
    }

    /** "Returns its value behind n ticks". */
    private static void laterBehind500Ticks() {
        OrderChains x = longRun(97, 3, 7, 95, 1, 1, 0);
        expect.that("behind no tick, a value that is 0", x.later(80, 0), 0);
        expect.that("behind no tick, a value that is 99", x.later(3, 0), 99);
        expect.that("behind reading", x.later(80, 1), 0);
        expect.that("behind the first unit", x.later(80, 2), 1);
        expect.that("a write in the tick 500, behind 499", x.later(95, 499), 0);
        expect.that("a write in the tick 500", x.later(95, 500), 7);
        expect.that("a write in the tick 501", longRun(98, 3, 7, 95, 1, 1, 0).later(95, 500), 0);
    }

    /** "(as far as there are any)". */
    private static void laterAsFarAsThereAreTicks() {
        OrderChains x = Engines.ordered(0, 0, 4, 1, 50, 3, 0, 30);
        int[] due = {0, 0, 1, 2, 3, 3, 3};
        for (int n = 0; n < due.length; n++) {
            expect.that("behind " + n + " ticks", x.later(50, n), due[n]);
        }
        expect.that("behind 500 ticks", x.later(50, 500), 3);
        x.run(99);
        expect.that("without a tick", x.later(50, 500), 3);
    }

    /** "n: 0 to 500". */
    private static void contestedFrom0To500Ticks() {
        OrderChains x = new OrderChains();
        expect.that("contested(0)", x.contested(0), 0);
        expect.that("contested(500)", x.contested(500), 0);
        for (int n : NOT_HORIZONS) {
            expect.fails("contested(" + n + ")", Engines.ARGUMENT, () -> x.contested(n));
        }
    }

    /** Channels 1 and 2 read, and write the cell 50 with their units in the ticks 3 and 4. */
    private static OrderChains twoWriters() {
        return Engines.loaded("E@10030150010190@20030250010190s110s220");
    }

    /** "in the next n ticks". */
    private static void contestedByNoTick() {
        int[] due = {0, 0, 0, 0, 1, 1};
        for (int n = 0; n < due.length; n++) {
            expect.that("contested(" + n + ")", twoWriters().contested(n), due[n]);
        }
    }

    /** The same: channel 1 needs three ticks for a write into the cell 70, so that channel 0 is three ticks late. */
    private static void contestedBehind500Ticks() {
        for (int count = 93; count <= 95; count++) {
            OrderChains x = longRun(count, 3, 7, 70, 1, 1, 40);
            Engines.lay(x, 50, 3, 7, 70, 1, 1, 40);
            x.start(1, 50);
            int tick = 403 + count + 3;
            expect.that("a second writer in the tick " + tick, x.contested(500), tick <= 500 ? 1 : 0);
            expect.that("a second writer in the tick " + tick + ", behind 499", x.contested(499), tick <= 499 ? 1 : 0);
        }
    }

    /** "at least two channels". */
    private static void contestedByTwoAndByThree() {
        OrderChains x = new OrderChains();
        for (int h = 0; h < 3; h++) {
            x.order(6 * h, 3, h, 50, 1);
            x.poke(6 * h + 5, 90);
            x.start(h, 6 * h);
            expect.that("writers of one cell: " + (h + 1), x.contested(500), h == 0 ? 0 : 1);
        }
        OrderChains often = Engines.ordered(0, 0, 3, 7, 50, 99, 0, 90);
        expect.that("one writer alone, 99 times", often.contested(500), 0);
    }

    /** "Returns the number of cells": the first and the last one, too. */
    private static void contestedFromNoneToAllCells() {
        int[] cells = {0, 95};
        for (int c : cells) {
            OrderChains x = new OrderChains();
            for (int h = 0; h < 2; h++) {
                Engines.lay(x, 40 + 6 * h, 3, 1, c, 1, 1, 90);
                x.start(h, 40 + 6 * h);
            }
            expect.that("the cell " + c, x.contested(500), 1);
        }
        // Both read the order at 0 ahead of their 96 units, which write over it, too.
        OrderChains all = Engines.ordered(0, 0, 3, 7, 0, 96, 1, 91);
        all.start(1, 0);
        expect.that("no cell ahead of the second writer", all.contested(3), 0);
        expect.that("the first cell", all.contested(4), 1);
        expect.that("all cells but the last one", all.contested(2 + 2 * 96 - 1), 95);
        expect.that("all cells", all.contested(2 + 2 * 96), 96);
        expect.that("all cells, then no tick", all.contested(500), 96);
    }

    /** "in the next n ticks": not in those before. */
    private static void contestedByWhatWasWrittenBefore() {
        OrderChains x = twoWriters();
        x.run(3);
        expect.that("a first writer in the tick before", x.contested(500), 0);
        OrderChains y = twoWriters();
        y.contested(500);
        y.run(4);
        expect.that("both in the ticks before", y.contested(500), 0);
    }

    /** "they are not written if they are the same cell". */
    private static void contestedByAnExchangeOfOneCell() {
        expect.that("an exchange of one cell",
            Engines.loaded("E@10055050010190@20030250010190s110s220").contested(500), 0);
        expect.that("an exchange of two cells",
            Engines.loaded("E@10055051010190@20030250020190s110s220").contested(500), 2);
    }

    /** "the first edit in the next 500 ticks". */
    private static void firstEditBehind500Ticks() {
        expect.that("an edit in the tick 499", longRun(96, 3, 7, 29, 1, 1, 0).firstEdit(), 29);
        expect.that("an edit in the tick 500", longRun(97, 3, 7, 29, 1, 1, 0).firstEdit(), 29);
        OrderChains more = longRun(98, 3, 7, 29, 1, 1, 0);
        expect.that("an edit in the tick 501", more.firstEdit(), NONE);
        more.run(1);
        expect.that("the same, a tick later", more.firstEdit(), 29);
    }

    /** "Returns 100 * (the channel that writes) + (the cell)". */
    private static void firstEditOfEachChannelAndCell() {
        for (int h = 0; h < 3; h++) {
            OrderChains first = Engines.ordered(h, 0, 3, 7, 0, 1, 1, 30);
            expect.that("the cell 0 by " + h, first.firstEdit(), 100 * h);
            OrderChains last = Engines.ordered(h, 90, 3, 7, 95, 1, 1, 30);
            expect.that("the cell 95 by " + h, last.firstEdit(), 100 * h + 95);
        }
    }

    /** "NONE if there is none." */
    private static void firstEditIfThereIsNone() {
        expect.that("of a new object", new OrderChains().firstEdit(), NONE);
        expect.that("of writes beside what was read", Engines.ordered(0, 6, 3, 7, 0, 6, 1, 30).firstEdit(), NONE);
        OrderChains reading = new OrderChains();
        reading.start(0, 0);
        expect.that("of reading alone", reading.firstEdit(), NONE);
        OrderChains same = Engines.ordered(0, 6, 5, 6, 6, 6, 1, 30);
        expect.that("of exchanges of one cell", same.firstEdit(), NONE);
    }

    /** "the first edit": of several ones, and of the two writes of an exchange. */
    private static void firstEditIsTheFirst() {
        expect.that("of three", Engines.ordered(0, 6, 3, 7, 4, 5, 1, 30).firstEdit(), 6);
        expect.that("of an exchange", Engines.ordered(0, 6, 5, 11, 6, 1, 1, 30).firstEdit(), 11);
        expect.that("of an exchange, backwards", Engines.ordered(0, 6, 5, 6, 11, 1, 1, 30).firstEdit(), 6);
        expect.that("of an exchange with a cell that was not read",
            Engines.ordered(0, 6, 5, 40, 11, 1, 1, 30).firstEdit(), 11);
        OrderChains two = Engines.loaded("E030102010190@10030312010190s110s200");
        expect.that("of two channels", two.firstEdit(), 112);
    }

    /** "in the next 500 ticks": not in those before; what was read before does count. */
    private static void firstEditBeforeNow() {
        OrderChains x = Engines.ordered(0, 6, 3, 7, 6, 1, 1, 30);
        x.run(1);
        expect.that("a unit to come", x.firstEdit(), 6);
        x.run(1);
        expect.that("a unit that was done", x.firstEdit(), NONE);
    }

    /** "IndexOutOfBoundsException if there is no such channel". */
    private static void aloneOfChannel0To2() {
        OrderChains x = new OrderChains();
        for (int h = 0; h <= 2; h++) {
            x.order(6 * h, 3, 1, 50, 1 + h);
            x.poke(6 * h + 5, 90);
            x.start(h, 6 * h);
        }
        for (int h = 0; h <= 2; h++) {
            expect.that("alone(" + h + ")", x.alone(h), 1 + h);
        }
        for (int h : Engines.NOT_CHANNELS) {
            expect.fails("alone(" + h + ")", Engines.INDEX, () -> x.alone(h));
        }
    }

    /** "how many cells are written by it in 500 ticks": six of them read the orders. */
    private static void aloneBehind500Ticks() {
        expect.that("a write in the tick 500", longRun(97, 3, 7, 70, 1, 1, 40).alone(0), 494);
        expect.that("a write in the tick 501", longRun(98, 3, 7, 70, 1, 1, 40).alone(0), 494);
        expect.that("a write in the tick 499", longRun(96, 3, 7, 70, 1, 1, 40).alone(0), 493);
        expect.that("writes in the ticks 500 and 501", longRun(99, 3, 7, 70, 1, 1, 40).alone(0), 495);
        OrderChains ticks = longRun(99);
        ticks.run(99);
        expect.that("500 ticks from now on", ticks.alone(0), 397);
    }

    /** "(a cell that is written twice counts twice)". */
    private static void aloneCountsACellTwice() {
        expect.that("a cell three times", Engines.ordered(1, 0, 3, 7, 50, 3, 0, 30).alone(1), 3);
        expect.that("two cells twice", Engines.ordered(1, 0, 5, 50, 60, 2, 1, 30).alone(1), 4);
        expect.that("an exchange of one cell", Engines.ordered(1, 0, 5, 50, 50, 2, 1, 30).alone(1), 0);
    }

    /** What is idle, done or faulty writes nothing; what was written before does not count. */
    private static void aloneOfOneThatIsNotBusy() {
        OrderChains x = Engines.ordered(0, 0, 3, 7, 94, 3, 1, 30);
        x.start(1, 40);
        expect.that("two cells ahead of a fault", x.alone(0), 2);
        x.run(99);
        expect.that("faulty", x.alone(0), 0);
        expect.that("done", x.alone(1), 0);
        expect.that("idle", x.alone(2), 0);
    }

    /** "if the other two were idle from now on": with them, it would be another number. */
    private static void aloneWithoutTheOtherTwo() {
        for (int h = 0; h < 3; h++) {
            int first = (h + 1) % 3;
            int second = (h + 2) % 3;
            OrderChains x = new OrderChains();
            Engines.lay(x, 0, 3, 7, 60, 5, 1, 6);
            Engines.lay(x, 6, 3, 7, 70, 5, 1, 90);
            Engines.lay(x, 20, 3, 0, 6, 1, 1, 91);
            Engines.lay(x, 30, 3, 0, 6, 1, 1, 91);
            x.start(h, 0);
            x.start(first, 20);
            x.start(second, 30);
            expect.that("alone(" + h + ")", x.alone(h), 10);
            x.run(99);
            expect.that("with the other two", x.channel(h, 7), 5);
        }
    }

    /** "these and all following methods up to the save slots change nothing." */
    private static void nothingChanges() {
        String text = "E030120090112@12030150020190@20000000s000s120s212";
        OrderChains x = Engines.loaded(text);
        OrderChains untouched = Engines.loaded(text);
        x.run(5);
        untouched.run(5);
        for (int h = 0; h < 3; h++) {
            x.ends(h);
            x.endOf(h);
            x.alone(h);
        }
        x.later(50, 500);
        x.contested(500);
        x.firstEdit();
        x.runScript(3, 203031000020099L);
        x.simulate(77, 50);
        expect.same("the state behind looking ahead", Engines.everything(x), Engines.everything(untouched));
        x.run(1);
        untouched.run(1);
        expect.that("its next tick", x.about(4), untouched.about(4));
        expect.that("undo of that run", x.undo(), 1);
        expect.that("undo of the run before", x.undo(), 0);
        expect.that("ticks at first", x.about(0), 0);
    }
}
