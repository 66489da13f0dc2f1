/** The sentences of promises 6 to 9, and of "Cells and orders", that name a boundary: a test for each. */
public final class NumbersEdgesTest {
    private static final Expect expect = new Expect("NumbersEdgesTest");
    private static final int NONE = OrderChains.NONE;

    public static void main(String[] args) {
        aboutFrom0To9();
        aboutTicksAtFirstAndBehindTheLast();
        aboutChannelsFromNoneToThree();
        aboutTheNextTickIfThereIsNone();
        aboutTheSumOfFullCells();
        aboutEditsAndWritesAtFirst();
        aboutMarksUpToTheLastCell();
        aboutOwnersUpToTheLastCell();
        cellsFrom0To95();
        cellNumbersFrom0To3();
        cellThatNobodyWrote();
        cellThatWasPoked();
        channelsFrom0To2();
        channelNumbersFrom0To7();
        channelHeadAtFirst();
        channelThatIsNotFaulty();
        channelWithoutAnOrderInHand();
        channelReadsAStopAndAStrangeKind();
        channelReadsNothingAbove90();
        channelWritesACellTwice();
        chainsFrom0To95();
        chainNumbersFrom0To1();
        chainAtACellAbove90();
        chainWithANextAbove90();
        chainAtAKindAbove6();
        chainAtAStop();
        chainToAnOrderThatWasRead();
        chainOfAChoice();
        chainOfAsManyOrdersAsThereAre();
        expect.finish();
    }

    /** "IllegalArgumentException if what is not 0 to 9". */
    private static void aboutFrom0To9() {
        OrderChains x = new OrderChains();
        for (int what = 0; what <= 9; what++) {
            expect.that("about(" + what + ") of a new object", x.about(what), what == 4 ? NONE : 0);
        }
        int[] wrong = {-1, 10, Integer.MIN_VALUE, Integer.MAX_VALUE};
        for (int what : wrong) {
            expect.fails("about(" + what + ")", Engines.ARGUMENT, () -> x.about(what));
        }
    }

    /** "0: the ticks so far": also those in which a channel ends, and none that did not go by. */
    private static void aboutTicksAtFirstAndBehindTheLast() {
        OrderChains x = Engines.loaded("E@9007s000s190s291");
        expect.that("ticks at first", x.about(0), 0);
        expect.that("run to the end", x.run(99), 3);
        expect.that("ticks behind a stop and two faults", x.about(0), 3);
    }

    /** "1: the number of busy channels; 2: of done ones; 3: of faulty ones". */
    private static void aboutChannelsFromNoneToThree() {
        int[] heads = {91, 0, 0};
        for (int what = 1; what <= 3; what++) {
            OrderChains x = new OrderChains();
            for (int h = 0; h < 3; h++) {
                expect.that("about(" + what + ") of " + h + " channels", x.about(what), h);
                x.start(h, heads[what == 3 ? 0 : 1]);
                if (what > 1) {
                    x.run(1);
                }
            }
            for (int other = 1; other <= 3; other++) {
                expect.that("about(" + other + ") of three", x.about(other), other == what ? 3 : 0);
            }
        }
    }

    /** "4: the channel to which the next tick belongs, NONE if there is none". */
    private static void aboutTheNextTickIfThereIsNone() {
        OrderChains x = new OrderChains();
        expect.that("none is busy: idle ones", x.about(4), NONE);
        x.start(2, 0);
        expect.that("the last channel alone", x.about(4), 2);
        x.run(1);
        expect.that("none is busy: a done one", x.about(4), NONE);
        x.start(0, 91);
        expect.that("the first channel alone", x.about(4), 0);
        x.run(1);
        expect.that("none is busy: a faulty one", x.about(4), NONE);
        x.start(1, 0);
        expect.that("the middle channel alone", x.about(4), 1);
        x.stop(1);
        expect.that("none is busy: a stopped one", x.about(4), NONE);
    }

    /** "5: the sum of all values": of 96 cells with values up to 99. */
    private static void aboutTheSumOfFullCells() {
        OrderChains x = new OrderChains();
        for (int c = 0; c < 96; c++) {
            expect.that("sum behind " + c + " cells", x.about(5), 99 * c);
            x.poke(c, 99);
        }
        expect.that("sum of 96 cells", x.about(5), 9504);
    }

    /** "6: the edits so far; 7: the writes so far": a first one of each. */
    private static void aboutEditsAndWritesAtFirst() {
        OrderChains x = Engines.ordered(0, 0, 3, 7, 5, 2, 1, 30);
        x.run(1);
        expect.that("no edit behind reading", x.about(6), 0);
        expect.that("no write behind reading", x.about(7), 0);
        x.run(1);
        expect.that("the first edit", x.about(6), 1);
        expect.that("the first write", x.about(7), 1);
        x.run(1);
        expect.that("a write of a cell that is not marked is no edit", x.about(6), 1);
        expect.that("the second write", x.about(7), 2);
    }

    /** "8: the number of cells that are marked as read": none, six, some of them twice, all. */
    private static void aboutMarksUpToTheLastCell() {
        OrderChains x = new OrderChains();
        for (int a = 0; a <= 90; a += 6) {
            expect.that("marks ahead of the order at " + a, x.about(8), a);
            x.start(0, a);
            x.run(1);
        }
        expect.that("all marks", x.about(8), 96);
        x.start(0, 90);
        x.run(1);
        expect.that("all marks again", x.about(8), 96);
        OrderChains y = new OrderChains();
        y.start(0, 0);
        y.start(1, 5);
        y.run(9);
        expect.that("marks of orders that share a cell", y.about(8), 11);
    }

    /** "9: of cells that have an owner": none to all. */
    private static void aboutOwnersUpToTheLastCell() {
        OrderChains x = new OrderChains();
        for (int c = 0; c < 96; c++) {
            expect.that("owned cells", x.about(9), c);
            x.own(c, 1, 1 + c % 3);
        }
        expect.that("all cells owned", x.about(9), 96);
        x.own(0, 96, 0);
        expect.that("no cell owned", x.about(9), 0);
    }

    /** "There are 96 cells, numbered from 0", "IndexOutOfBoundsException if there is no such cell". */
    private static void cellsFrom0To95() {
        OrderChains x = new OrderChains();
        for (int c = 0; c < 96; c++) {
            expect.that("value of " + c, x.cell(c, 0), 0);
        }
        for (int c : Engines.NOT_CELLS) {
            for (int what = 0; what <= 3; what++) {
                int asked = what;
                expect.fails("cell(" + c + ", " + what + ")", Engines.INDEX, () -> x.cell(c, asked));
            }
        }
    }

    /** "IllegalArgumentException if what is not 0 to 3". */
    private static void cellNumbersFrom0To3() {
        OrderChains x = new OrderChains();
        int[] edges = {0, 95};
        int[] wrong = {-1, 4, Integer.MIN_VALUE, Integer.MAX_VALUE};
        for (int c : edges) {
            for (int what = 0; what <= 3; what++) {
                expect.that("cell(" + c + ", " + what + ")", x.cell(c, what), what == 3 ? NONE : 0);
            }
            for (int what : wrong) {
                expect.fails("cell(" + c + ", " + what + ")", Engines.ARGUMENT, () -> x.cell(c, what));
            }
        }
    }

    /** "3: the channel that wrote it last .., NONE if none did". */
    private static void cellThatNobodyWrote() {
        OrderChains x = Engines.ordered(2, 0, 3, 7, 0, 2, 95, 90);
        x.run(99);
        expect.that("writer of the first cell", x.cell(0, 3), 2);
        expect.that("writer of the last cell", x.cell(95, 3), 2);
        expect.that("writer of a cell that was read alone", x.cell(1, 3), NONE);
        expect.that("writer of a cell between", x.cell(94, 3), NONE);
    }

    /** "(poke() does not count)": nor does order(), which lays like poke(). */
    private static void cellThatWasPoked() {
        OrderChains x = Engines.ordered(1, 0, 3, 7, 50, 1, 1, 90);
        x.run(99);
        x.poke(50, 8);
        x.order(51, 1, 2, 3, 4);
        expect.that("a poke behind a write", x.cell(50, 3), 1);
        for (int c = 51; c < 57; c++) {
            expect.that("an order that was laid: writer of " + c, x.cell(c, 3), NONE);
        }
    }

    /** "There are three channels, numbered 0 to 2." */
    private static void channelsFrom0To2() {
        OrderChains x = new OrderChains();
        for (int h = 0; h <= 2; h++) {
            expect.that("channel(" + h + ", 0)", x.channel(h, 0), 0);
        }
        for (int h : Engines.NOT_CHANNELS) {
            for (int what = 0; what <= 7; what++) {
                int asked = what;
                expect.fails("channel(" + h + ", " + what + ")", Engines.INDEX, () -> x.channel(h, asked));
            }
        }
    }

    /** "IllegalArgumentException if what is not 0 to 7". */
    private static void channelNumbersFrom0To7() {
        OrderChains x = new OrderChains();
        int[] due = {0, 0, NONE, NONE, NONE, 0, 0, 0};
        int[] wrong = {-1, 8, Integer.MIN_VALUE, Integer.MAX_VALUE};
        for (int h = 0; h <= 2; h++) {
            int asked = h;
            for (int what = 0; what <= 7; what++) {
                expect.that("channel(" + h + ", " + what + ")", x.channel(h, what), due[what]);
            }
            for (int what : wrong) {
                expect.fails("channel(" + h + ", " + what + ")", Engines.ARGUMENT, () -> x.channel(asked, what));
            }
        }
    }

    /** "1: its head (0 at first)". */
    private static void channelHeadAtFirst() {
        OrderChains x = new OrderChains();
        x.start(1, 95);
        for (int h = 0; h <= 2; h++) {
            expect.that("head of " + h, x.channel(h, 1), h == 1 ? 95 : 0);
        }
    }

    /** "2: its cause, NONE if it is not faulty". */
    private static void channelThatIsNotFaulty() {
        OrderChains x = new OrderChains();
        expect.that("cause of an idle one", x.channel(0, 2), NONE);
        x.start(0, 91);
        expect.that("cause of a busy one", x.channel(0, 2), NONE);
        x.run(1);
        expect.that("cause of a faulty one", x.channel(0, 2), 1);
        x.start(0, 0);
        expect.that("cause of one that was faulty", x.channel(0, 2), NONE);
        x.run(1);
        expect.that("cause of a done one", x.channel(0, 2), NONE);
        x.start(0, 91);
        x.run(1);
        x.start(0, 0);
        x.stop(0);
        expect.that("cause of a stopped one", x.channel(0, 2), NONE);
    }

    /** "3: the place of the order in hand, NONE without one; 4: the kind ..; 5: the units .. (0 without one)". */
    private static void channelWithoutAnOrderInHand() {
        OrderChains x = Engines.ordered(0, 0, 3, 7, 94, 3, 1, 50);
        checkHand(x, "a busy one at first", NONE, NONE, 0);
        x.run(1);
        checkHand(x, "an order at cell 0, read", 0, 3, 0);
        x.run(2);
        checkHand(x, "two units done", 0, 3, 2);
        x.run(1);
        checkHand(x, "a faulty one", NONE, NONE, 0);
        OrderChains y = Engines.ordered(0, 90, 3, 7, 50, 2, 1, 0);
        y.run(1);
        checkHand(y, "an order at cell 90, read", 90, 3, 0);
        y.run(1);
        checkHand(y, "a unit done", 90, 3, 1);
        y.run(1);
        checkHand(y, "the last unit done", NONE, NONE, 0);
        y.run(1);
        checkHand(y, "a done one", NONE, NONE, 0);
        y.start(0, 90);
        y.run(2);
        y.stop(0);
        checkHand(y, "a stopped one", NONE, NONE, 0);
        y.start(0, 90);
        y.run(2);
        y.start(0, 90);
        checkHand(y, "one that was started again", NONE, NONE, 0);
    }

    private static void checkHand(OrderChains x, String when, int place, int kind, int units) {
        expect.that(when + ": place", x.channel(0, 3), place);
        expect.that(when + ": kind", x.channel(0, 4), kind);
        expect.that(when + ": units", x.channel(0, 5), units);
    }

    /** "6: the orders that it has read so far (also a stop, or one of a kind above 6)". */
    private static void channelReadsAStopAndAStrangeKind() {
        OrderChains x = new OrderChains();
        expect.that("orders at first", x.channel(0, 6), 0);
        x.start(0, 0);
        expect.that("orders behind a start", x.channel(0, 6), 0);
        x.run(1);
        expect.that("orders behind a stop", x.channel(0, 6), 1);
        x.poke(0, 7);
        x.start(0, 0);
        x.run(1);
        expect.that("orders behind the kind 7", x.channel(0, 6), 2);
        x.poke(0, 99);
        x.start(0, 0);
        x.run(1);
        expect.that("orders behind the kind 99", x.channel(0, 6), 3);
        expect.that("orders of another channel", x.channel(1, 6), 0);
    }

    /** "If the head is above 90, it becomes faulty": no order was read then. */
    private static void channelReadsNothingAbove90() {
        OrderChains x = new OrderChains();
        for (int a = 91; a < 96; a++) {
            x.start(0, a);
            x.run(1);
            expect.that("orders behind the head " + a, x.channel(0, 6), 0);
        }
        x.start(0, 90);
        x.run(1);
        expect.that("orders behind the head 90", x.channel(0, 6), 1);
    }

    /** "7: the cells that it wrote so far (a cell that is written twice counts twice)". */
    private static void channelWritesACellTwice() {
        OrderChains x = Engines.ordered(1, 0, 3, 7, 50, 2, 0, 90);
        expect.that("cells at first", x.channel(1, 7), 0);
        x.run(99);
        expect.that("one cell twice", x.channel(1, 7), 2);
        OrderChains y = Engines.ordered(1, 0, 5, 60, 61, 2, 1, 90);
        y.run(99);
        expect.that("two exchanges with a cell in common", y.channel(1, 7), 4);
        OrderChains z = Engines.ordered(1, 0, 5, 60, 60, 2, 1, 90);
        z.run(99);
        expect.that("exchanges of one cell", z.channel(1, 7), 0);
    }

    /** "IndexOutOfBoundsException if there is no such cell". */
    private static void chainsFrom0To95() {
        OrderChains x = new OrderChains();
        for (int a = 0; a < 96; a++) {
            checkChain(x, a, a <= 90 ? 1 : 0, a <= 90 ? 0 : 2);
        }
        for (int a : Engines.NOT_CELLS) {
            expect.fails("chain(" + a + ", 0)", Engines.INDEX, () -> x.chain(a, 0));
            expect.fails("chain(" + a + ", 1)", Engines.INDEX, () -> x.chain(a, 1));
        }
    }

    private static void checkChain(OrderChains x, int a, int orders, int ending) {
        expect.that("chain(" + a + ", 0)", x.chain(a, 0), orders);
        expect.that("chain(" + a + ", 1)", x.chain(a, 1), ending);
    }

    /** "IllegalArgumentException if what is not 0 or 1". */
    private static void chainNumbersFrom0To1() {
        OrderChains x = new OrderChains();
        int[] wrong = {-1, 2, Integer.MIN_VALUE, Integer.MAX_VALUE};
        for (int what : wrong) {
            expect.fails("chain(0, " + what + ")", Engines.ARGUMENT, () -> x.chain(0, what));
            expect.fails("chain(95, " + what + ")", Engines.ARGUMENT, () -> x.chain(95, what));
        }
    }

    /** "at a cell above 90 (which counts no order)": whatever lies there. */
    private static void chainAtACellAbove90() {
        OrderChains x = new OrderChains();
        for (int c = 90; c < 96; c++) {
            x.poke(c, 7);
        }
        checkChain(x, 90, 1, 1);
        for (int a = 91; a < 96; a++) {
            checkChain(x, a, 0, 2);
        }
    }

    /** The same, behind an order. */
    private static void chainWithANextAbove90() {
        OrderChains x = new OrderChains();
        x.order(0, 1, 0, 0, 0);
        for (int next = 91; next <= 99; next++) {
            x.poke(5, next);
            checkChain(x, 0, 1, 2);
        }
        x.poke(5, 90);
        checkChain(x, 0, 2, 0);
        OrderChains y = new OrderChains();
        y.order(90, 1, 0, 0, 0);
        checkChain(y, 90, 1, 2);
        y.poke(95, 0);
        checkChain(y, 90, 2, 0);
    }

    /** "with a kind above 6": 7 at least. */
    private static void chainAtAKindAbove6() {
        OrderChains x = new OrderChains();
        x.order(0, 1, 0, 0, 0);
        for (int kind = 0; kind <= 99; kind++) {
            x.poke(6, kind);
            x.poke(11, 95);
            checkChain(x, 0, 2, kind == 0 ? 0 : kind > 6 ? 1 : 2);
        }
    }

    /** "it ends with a stop", at once or behind an order. */
    private static void chainAtAStop() {
        OrderChains x = new OrderChains();
        x.poke(5, 20);
        checkChain(x, 0, 1, 0);
        x.poke(0, 1);
        checkChain(x, 0, 2, 0);
    }

    /** "or at an order that was read in it already": its first one, its last one, one between. */
    private static void chainToAnOrderThatWasRead() {
        OrderChains x = new OrderChains();
        x.order(90, 1, 0, 0, 0);
        x.poke(95, 90);
        checkChain(x, 90, 1, 3);
        x.order(0, 1, 0, 0, 0);
        x.order(6, 1, 0, 0, 0);
        x.order(12, 1, 0, 0, 0);
        x.poke(17, 0);
        checkChain(x, 0, 3, 3);
        x.poke(17, 6);
        checkChain(x, 0, 3, 3);
        x.poke(17, 12);
        checkChain(x, 0, 3, 3);
        x.poke(17, 90);
        checkChain(x, 0, 4, 3);
    }

    /** "each to its next (of the kind 6, too)": whether it would be chosen or not. */
    private static void chainOfAChoice() {
        OrderChains x = new OrderChains();
        x.order(0, 6, 50, 0, 0);
        x.poke(5, 91);
        checkChain(x, 0, 1, 2);
        x.poke(50, 1);
        checkChain(x, 0, 1, 2);
        x.poke(5, 40);
        checkChain(x, 0, 2, 0);
        x.poke(1, 99);
        checkChain(x, 0, 2, 0);
    }

    /** "the number of different orders": they may share cells, so that 46 of them fit (and more with a detour). */
    private static void chainOfAsManyOrdersAsThereAre() {
        OrderChains x = new OrderChains();
        int orders = 0;
        int last = 0;
        for (int a = 0; a <= 90; a++) {
            if (a % 10 < 5) {
                x.poke(a, 1);
                x.poke(last + 5, a);
                last = a;
                orders++;
            }
        }
        expect.that("orders that were laid", orders, 46);
        x.poke(95, 91);
        checkChain(x, 0, 46, 2);
        checkChain(x, 1, 45, 2);
        x.poke(95, 0);
        checkChain(x, 0, 46, 3);
        // The order at 5 has the kind 1, its next is the value of the cell 10.
        x.poke(95, 5);
        checkChain(x, 0, 47, 3);
    }
}
