/** The sentences of "Channels" and "A tick" that name a boundary: a test for each. */
public final class TickEdgesTest {
    private static final Expect expect = new Expect("TickEdgesTest");
    private static final int NONE = OrderChains.NONE;
    private static final int STILL_BUSY = 0;

    public static void main(String[] args) {
        turnsBeginAtChannel0();
        behindTheLastChannelComesTheFirst();
        channelsThatAreNotBusyAreLeftOut();
        theOnlyBusyChannelHasEachTick();
        turnsGoOnBehindAPause();
        noTickIfNoneIsBusy();
        headsFrom90To95();
        headsAboveTheCells();
        marksOfTheFirstAndOfTheLastOrder();
        marksOfNoCellButThoseOfOrders();
        kindsFrom0To99();
        count0EndsAtOnce();
        count0OfAChoice();
        count1();
        count99();
        copyUpwardsToTheLastCell();
        copyUpwardsFromTheLastCell();
        copyDownwardsBeginsAtTheLastCell();
        copyDownwardsBeyondTheLastCell();
        copyDownwardsEndsAtTheFirstCell();
        fillToTheLastCell();
        fillWithStride0AndStride99();
        fillWithAValueThatIsNoCell();
        addAsTheRemainderBy100();
        addToTheLastCell();
        exchangeWithTheLastCell();
        exchangeOfOneCell();
        chooseAtTheLastCell();
        chooseBehindTheLastOrder();
        ownersOfEachChannel();
        foreignCellsThatAreReadAlone();
        exchangeWithOneForeignCell();
        cause3ComesAheadOfCause4();
        earlierUnitsOfAFaultStay();
        aFaultKeepsTheHead();
        anOrderInHandDoesNotChange();
        theNextOrderIsReadAsItIs();
        editsAtTheEdgesOfAnOrder();
        editsOfWhoeverReadsAndWrites();
        expect.finish();
    }

    /** Lets ticks go by and compares the cause of the channel; 0 stands for a channel that is busy still. */
    private static void checkCause(String what, OrderChains x, int h, int ticks, int cause) {
        x.run(ticks);
        expect.that(what + ": condition", x.channel(h, 0), cause == STILL_BUSY ? 1 : 3);
        expect.that(what + ": cause", x.channel(h, 2), cause == STILL_BUSY ? NONE : cause);
    }

    private static void checkTurns(OrderChains x, int... turns) {
        for (int h : turns) {
            int before = x.channel(h, 5) + x.channel(h, 6);
            expect.that("turn at tick " + x.about(0), x.about(4), h);
            x.run(1);
            expect.that("it was the tick of " + h, x.channel(h, 5) + x.channel(h, 6), before + 1);
        }
    }

    private static OrderChains threeFills() {
        OrderChains x = new OrderChains();
        for (int h = 0; h < 3; h++) {
            x.order(6 * h, 3, 1, 60 + 10 * h, 9);
        }
        return x;
    }

    /** "at first from channel 0 on". */
    private static void turnsBeginAtChannel0() {
        OrderChains x = threeFills();
        x.start(2, 12);
        x.start(1, 6);
        x.start(0, 0);
        checkTurns(x, 0, 1, 2);
        OrderChains y = threeFills();
        y.start(2, 12);
        checkTurns(y, 2);
    }

    /** "the first one again behind the last one". */
    private static void behindTheLastChannelComesTheFirst() {
        OrderChains x = threeFills();
        x.start(2, 12);
        x.start(0, 0);
        checkTurns(x, 0, 2, 0, 2);
        x.start(1, 6);
        checkTurns(x, 0, 1, 2, 0);
    }

    /** "the first busy one of the channels behind that which had the last tick". */
    private static void channelsThatAreNotBusyAreLeftOut() {
        OrderChains x = threeFills();
        x.start(0, 0);
        x.start(1, 90);
        x.start(2, 12);
        checkTurns(x, 0, 1, 2, 0, 2, 0);
        x.start(1, 91);
        expect.that("turn of one that will be faulty", x.about(4), 1);
        x.run(1);
        checkTurns(x, 2, 0, 2);
        x.stop(0);
        x.start(1, 6);
        checkTurns(x, 1, 2, 1, 2);
    }

    /** The same: that one itself, if there is no other. */
    private static void theOnlyBusyChannelHasEachTick() {
        for (int h = 0; h < 3; h++) {
            OrderChains x = threeFills();
            x.start(h, 6 * h);
            checkTurns(x, h, h, h);
        }
    }

    /** "behind that which had the last tick": also if none was busy for a while. */
    private static void turnsGoOnBehindAPause() {
        for (int h = 0; h < 3; h++) {
            OrderChains x = threeFills();
            x.start(h, 90);
            x.run(1);
            expect.that("no turn behind " + h, x.about(4), NONE);
            for (int k = 0; k < 3; k++) {
                x.start(k, 6 * k);
            }
            checkTurns(x, (h + 1) % 3, (h + 2) % 3, h);
        }
    }

    /** "There is no tick if none is busy." */
    private static void noTickIfNoneIsBusy() {
        OrderChains x = new OrderChains();
        expect.that("later without a tick", x.later(0, 500), 0);
        x.start(0, 0);
        expect.that("run of one tick", x.run(99), 1);
        expect.that("ticks", x.about(0), 1);
        expect.fails("run without a busy one", Engines.STATE, () -> x.run(1));
        expect.that("ticks still", x.about(0), 1);
    }

    /** "If the head is above 90, it becomes faulty with the cause 1. Otherwise the six cells are marked as read." */
    private static void headsFrom90To95() {
        for (int a = 89; a <= 95; a++) {
            OrderChains x = new OrderChains();
            x.start(0, a);
            x.run(1);
            expect.that("head " + a + ": condition", x.channel(0, 0), a <= 90 ? 2 : 3);
            expect.that("head " + a + ": cause", x.channel(0, 2), a <= 90 ? NONE : 1);
            expect.that("head " + a + " stays", x.channel(0, 1), a);
            expect.that("head " + a + ": ticks", x.about(0), 1);
            for (int c = 80; c < 96; c++) {
                boolean marked = a <= 90 && c >= a && c < a + 6;
                expect.that("head " + a + ": mark of " + c, x.cell(c, 2), marked ? 1 : 0);
            }
        }
    }

    /** The same, for heads that are no cells at all: a next may be up to 99. */
    private static void headsAboveTheCells() {
        for (int next = 90; next <= 99; next++) {
            OrderChains x = Engines.ordered(0, 0, 1, 0, 0, 0, 0, next);
            x.run(1);
            expect.that("next " + next + ": head", x.channel(0, 1), next);
            expect.that("next " + next + ": ticks to its end", x.run(99), 1);
            expect.that("next " + next + ": condition", x.channel(0, 0), next == 90 ? 2 : 3);
            expect.that("next " + next + ": cause", x.channel(0, 2), next == 90 ? NONE : 1);
            expect.that("next " + next + ": head stays", x.channel(0, 1), next);
            expect.that("next " + next + ": marks", x.about(8), next == 90 ? 12 : 6);
        }
    }

    /** "Otherwise the six cells are marked as read." */
    private static void marksOfTheFirstAndOfTheLastOrder() {
        int[] places = {0, 90};
        for (int a : places) {
            OrderChains x = new OrderChains();
            x.start(1, a);
            x.run(1);
            for (int c = 0; c < 96; c++) {
                expect.that("order at " + a + ": mark of " + c, x.cell(c, 2), c >= a && c < a + 6 ? 1 : 0);
            }
        }
    }

    /** The same: what the units of an order read or write is not marked. */
    private static void marksOfNoCellButThoseOfOrders() {
        for (int kind = 1; kind <= 6; kind++) {
            OrderChains x = Engines.ordered(0, 0, kind, 40, 50, 2, 1, 91);
            x.run(99);
            int orders = kind == 6 ? 2 : 1;
            for (int c = 0; c < 96; c++) {
                expect.that("kind " + kind + ": mark of " + c, x.cell(c, 2), c < 6 * orders ? 1 : 0);
            }
        }
    }

    /** "If the kind is 0, the channel is done; if it is above 6, it is faulty with the cause 2." */
    private static void kindsFrom0To99() {
        for (int kind = 0; kind <= 99; kind++) {
            OrderChains x = Engines.ordered(2, 10, kind, 0, 50, 2, 1, 40);
            x.run(1);
            boolean inHand = kind >= 1 && kind <= 6;
            expect.that("kind " + kind + ": condition", x.channel(2, 0), inHand ? 1 : kind == 0 ? 2 : 3);
            expect.that("kind " + kind + ": cause", x.channel(2, 2), kind > 6 ? 2 : NONE);
            expect.that("kind " + kind + ": place", x.channel(2, 3), inHand ? 10 : NONE);
            expect.that("kind " + kind + ": kind in hand", x.channel(2, 4), inHand ? kind : NONE);
            expect.that("kind " + kind + ": head", x.channel(2, 1), 10);
            expect.that("kind " + kind + ": marks", x.about(8), 6);
        }
    }

    /** "if the kind is 1 to 5 and the count is 0, it ends at once": though its cells are foreign, or do not exist. */
    private static void count0EndsAtOnce() {
        for (int kind = 1; kind <= 5; kind++) {
            int[] targets = {50, 96};
            for (int to : targets) {
                OrderChains x = Engines.ordered(0, 0, kind, to, to, 0, 1, 30);
                x.own(50, 1, 2);
                x.run(1);
                expect.that("kind " + kind + ": condition", x.channel(0, 0), 1);
                expect.that("kind " + kind + ": head", x.channel(0, 1), 30);
                expect.that("kind " + kind + ": place", x.channel(0, 3), NONE);
                expect.that("kind " + kind + ": orders", x.channel(0, 6), 1);
                expect.that("kind " + kind + ": the stop behind it", x.run(99), 1);
                expect.that("kind " + kind + ": writes", x.about(7), 0);
            }
        }
    }

    /** The same: a choice has no count. */
    private static void count0OfAChoice() {
        int[] counts = {0, 1, 99};
        for (int count : counts) {
            OrderChains x = Engines.ordered(0, 0, 6, 50, 0, count, 0, 30);
            x.run(1);
            expect.that("a choice with the count " + count + " is in hand", x.channel(0, 3), 0);
            x.run(1);
            expect.that("it ends behind its only unit", x.channel(0, 1), 30);
        }
    }

    /** "Behind the last unit (count of them ..) the order ends: the head becomes next." */
    private static void count1() {
        for (int kind = 1; kind <= 5; kind++) {
            OrderChains x = Engines.ordered(0, 0, kind, 40, 50, 1, 1, 30);
            x.run(1);
            expect.that("kind " + kind + ": in hand", x.channel(0, 3), 0);
            x.run(1);
            expect.that("kind " + kind + ": ended", x.channel(0, 3), NONE);
            expect.that("kind " + kind + ": head", x.channel(0, 1), 30);
            expect.that("kind " + kind + ": cells", x.channel(0, 7), kind == 5 ? 2 : 1);
        }
    }

    /** The same: the greatest count. */
    private static void count99() {
        OrderChains x = Engines.ordered(0, 0, 4, 1, 50, 99, 0, 30);
        x.run(99);
        expect.that("98 units of 99", x.channel(0, 5), 98);
        expect.that("its head is its place still", x.channel(0, 1), 0);
        x.run(1);
        expect.that("the last one of 99", x.channel(0, 3), NONE);
        expect.that("its next", x.channel(0, 1), 30);
        expect.that("99 units", x.cell(50, 0), 99);
    }

    /** "If one of these cells is above 95": 95 is none, and the units ahead of it were done. */
    private static void copyUpwardsToTheLastCell() {
        OrderChains x = Engines.ordered(0, 0, 1, 40, 94, 3, 1, 30);
        Engines.lay(x, 40, 11, 12, 13);
        checkCause("a unit to the cell 95", x, 0, 3, STILL_BUSY);
        expect.cells(x, 94, 11, 12);
        checkCause("a unit to the cell 96", x, 0, 1, 3);
        expect.that("writes", x.about(7), 2);
        OrderChains y = Engines.ordered(0, 0, 1, 40, 99, 1, 1, 30);
        checkCause("a unit to the cell 99", y, 0, 2, 3);
    }

    /** The same for the cell (from + i). */
    private static void copyUpwardsFromTheLastCell() {
        OrderChains x = Engines.ordered(0, 0, 1, 94, 40, 3, 1, 30);
        Engines.lay(x, 94, 11, 12);
        checkCause("a unit from the cell 95", x, 0, 3, STILL_BUSY);
        checkCause("a unit from the cell 96", x, 0, 1, 3);
        expect.cells(x, 40, 11, 12, 0);
        OrderChains y = Engines.ordered(0, 0, 1, 99, 40, 1, 1, 30);
        checkCause("a unit from the cell 99", y, 0, 2, 3);
    }

    /** "kind 2: the same with count - 1 - i in place of i". */
    private static void copyDownwardsBeginsAtTheLastCell() {
        OrderChains to = Engines.ordered(0, 0, 2, 40, 93, 3, 1, 30);
        Engines.lay(to, 40, 11, 12, 13);
        checkCause("the first unit goes to the cell 95", to, 0, 2, STILL_BUSY);
        expect.cells(to, 93, 0, 0, 13);
        OrderChains from = Engines.ordered(0, 0, 2, 93, 40, 3, 1, 30);
        Engines.lay(from, 93, 11, 12, 13);
        checkCause("the first unit comes from the cell 95", from, 0, 2, STILL_BUSY);
        expect.cells(from, 40, 0, 0, 13);
    }

    /** The same: the first unit is beyond the last cell then, and nothing is written. */
    private static void copyDownwardsBeyondTheLastCell() {
        OrderChains to = Engines.ordered(0, 0, 2, 40, 93, 4, 1, 30);
        checkCause("the first unit goes to the cell 96", to, 0, 2, 3);
        expect.that("writes", to.about(7), 0);
        OrderChains from = Engines.ordered(0, 0, 2, 93, 40, 4, 1, 30);
        checkCause("the first unit comes from the cell 96", from, 0, 2, 3);
        expect.that("writes", from.about(7), 0);
        OrderChains far = Engines.ordered(0, 0, 2, 99, 99, 99, 1, 30);
        checkCause("the first unit goes to the cell 197", far, 0, 2, 3);
    }

    /** The same: the last unit is that with i = 0. */
    private static void copyDownwardsEndsAtTheFirstCell() {
        OrderChains x = Engines.ordered(0, 60, 2, 0, 1, 3, 1, 30);
        Engines.lay(x, 0, 11, 12, 13, 14);
        x.run(99);
        expect.cells(x, 0, 11, 11, 12, 13, 0);
        OrderChains y = Engines.ordered(0, 60, 2, 1, 0, 2, 1, 30);
        Engines.lay(y, 0, 11, 12, 13);
        y.run(99);
        expect.cells(y, 0, 13, 13, 13);
    }

    /** "kind 3: the value (from) is written into the cell (to + i * stride)". */
    private static void fillToTheLastCell() {
        OrderChains x = Engines.ordered(0, 0, 3, 7, 91, 3, 2, 30);
        checkCause("units to the cells 91, 93 and 95", x, 0, 4, STILL_BUSY);
        expect.cells(x, 91, 7, 0, 7, 0, 7);
        OrderChains y = Engines.ordered(0, 0, 3, 7, 92, 3, 2, 30);
        checkCause("units to the cells 92 and 94", y, 0, 3, STILL_BUSY);
        checkCause("a unit to the cell 96", y, 0, 1, 3);
        expect.cells(y, 91, 0, 7, 0, 7, 0);
        OrderChains z = Engines.ordered(0, 0, 3, 7, 96, 1, 0, 30);
        checkCause("a first unit to the cell 96", z, 0, 2, 3);
    }

    /** The same: the least and the greatest stride. */
    private static void fillWithStride0AndStride99() {
        OrderChains x = Engines.ordered(0, 0, 3, 7, 95, 99, 0, 30);
        checkCause("98 units to the cell 95", x, 0, 99, STILL_BUSY);
        expect.that("they wrote one cell", x.cell(95, 0), 7);
        expect.that("98 times", x.channel(0, 7), 98);
        OrderChains y = Engines.ordered(0, 50, 3, 7, 0, 2, 95, 30);
        checkCause("units to the cells 0 and 95", y, 0, 3, STILL_BUSY);
        expect.that("value of 0", y.cell(0, 0), 7);
        expect.that("value of 95", y.cell(95, 0), 7);
        OrderChains z = Engines.ordered(0, 50, 3, 7, 0, 99, 99, 30);
        checkCause("a unit to the cell 0", z, 0, 2, STILL_BUSY);
        checkCause("a unit to the cell 99", z, 0, 1, 3);
        expect.that("writes", z.about(7), 1);
    }

    /** The same: from is a value, so that it may be above 95. */
    private static void fillWithAValueThatIsNoCell() {
        for (int value = 95; value <= 99; value++) {
            OrderChains x = Engines.ordered(0, 0, 3, value, 50, 3, 1, 30);
            checkCause("a fill with " + value, x, 0, 4, STILL_BUSY);
            expect.cells(x, 50, value, value, value);
        }
    }

    /** "kind 4: the value .. plus (from), as the remainder by 100". */
    private static void addAsTheRemainderBy100() {
        int[][] sums = {{0, 0, 0}, {99, 0, 99}, {0, 99, 99}, {98, 1, 99}, {99, 1, 0}, {50, 50, 0}, {99, 99, 98}};
        for (int[] sum : sums) {
            OrderChains x = Engines.ordered(0, 0, 4, sum[1], 50, 1, 1, 30);
            x.poke(50, sum[0]);
            x.run(2);
            expect.that(sum[0] + " plus " + sum[1], x.cell(50, 0), sum[2]);
            expect.that("a write, also if nothing becomes different", x.about(7), 1);
        }
    }

    /** "the value of the cell (to + i * stride)". */
    private static void addToTheLastCell() {
        OrderChains x = Engines.ordered(0, 0, 4, 99, 85, 3, 10, 30);
        checkCause("units to the cells 85 and 95", x, 0, 3, STILL_BUSY);
        expect.that("value of 85", x.cell(85, 0), 99);
        expect.that("value of 95", x.cell(95, 0), 99);
        checkCause("a unit to the cell 105", x, 0, 1, 3);
        OrderChains y = Engines.ordered(0, 0, 4, 1, 94, 3, 1, 30);
        checkCause("units to the cells 94 and 95", y, 0, 3, STILL_BUSY);
        checkCause("a unit to the cell 96", y, 0, 1, 3);
        expect.that("writes", y.about(7), 2);
    }

    /** "kind 5: the values of the cells (from + i) and (to + i) are exchanged". */
    private static void exchangeWithTheLastCell() {
        OrderChains to = Engines.ordered(0, 0, 5, 40, 94, 3, 1, 30);
        Engines.lay(to, 40, 11, 12, 13);
        checkCause("units with the cells 94 and 95", to, 0, 3, STILL_BUSY);
        checkCause("a unit with the cell 96 behind 42", to, 0, 1, 3);
        expect.cells(to, 40, 0, 0, 13);
        expect.cells(to, 94, 11, 12);
        OrderChains from = Engines.ordered(0, 0, 5, 94, 40, 3, 1, 30);
        Engines.lay(from, 94, 11, 12);
        checkCause("units with the cells 94 and 95", from, 0, 3, STILL_BUSY);
        checkCause("a unit with the cell 96 ahead of 42", from, 0, 1, 3);
        expect.cells(from, 40, 11, 12, 0);
        expect.that("two exchanges", from.about(7), 4);
    }

    /** "they are not written if they are the same cell": though it must be there. */
    private static void exchangeOfOneCell() {
        OrderChains x = Engines.ordered(0, 0, 5, 94, 94, 3, 1, 30);
        Engines.lay(x, 94, 11, 12);
        x.own(94, 2, 3);
        checkCause("foreign cells with themselves", x, 0, 3, STILL_BUSY);
        expect.cells(x, 94, 11, 12);
        expect.that("no write", x.about(7), 0);
        expect.that("no cell of the channel", x.channel(0, 7), 0);
        expect.that("no writer", x.cell(95, 3), NONE);
        checkCause("the cell 96 with itself", x, 0, 1, 3);
        OrderChains read = Engines.ordered(0, 0, 5, 0, 0, 6, 1, 30);
        read.run(7);
        expect.that("no edit", read.about(6), 0);
    }

    /** "kind 6: if the cell (from) has the value (to)": to is no cell. */
    private static void chooseAtTheLastCell() {
        OrderChains x = Engines.ordered(0, 0, 6, 95, 99, 0, 0, 30);
        x.poke(95, 99);
        checkCause("a choice of the cell 95", x, 0, 2, STILL_BUSY);
        expect.that("it has the value 99", x.channel(0, 1), 30);
        OrderChains y = Engines.ordered(0, 0, 6, 95, 98, 0, 0, 30);
        y.poke(95, 99);
        checkCause("a choice of the cell 95", y, 0, 2, STILL_BUSY);
        expect.that("it does not have the value 98", y.channel(0, 1), 6);
        for (int from = 96; from <= 99; from++) {
            OrderChains z = Engines.ordered(0, 0, 6, from, 0, 0, 0, 30);
            checkCause("a choice of the cell " + from, z, 0, 2, 3);
            expect.that("its head stays", z.channel(0, 1), 0);
        }
    }

    /** "otherwise the place of the order plus 6": 96 for an order at 90, which is above 90 then. */
    private static void chooseBehindTheLastOrder() {
        int[] places = {84, 85, 90};
        for (int a : places) {
            OrderChains x = Engines.ordered(0, a, 6, 0, 1, 0, 0, 30);
            checkCause("a choice at " + a, x, 0, 2, STILL_BUSY);
            expect.that("head behind the choice at " + a, x.channel(0, 1), a + 6);
            x.run(1);
            expect.that("condition behind it", x.channel(0, 0), a == 84 ? 2 : 3);
            expect.that("cause behind it", x.channel(0, 2), a == 84 ? NONE : 1);
        }
        OrderChains y = Engines.ordered(0, 0, 6, 50, 0, 0, 0, 99);
        checkCause("a choice whose next is above 95", y, 0, 2, STILL_BUSY);
        checkCause("it is a head above 90 then", y, 0, 1, 1);
        expect.that("that head stays", y.channel(0, 1), 99);
    }

    /** "If one that would be written has an owner who is not this channel, it becomes faulty with the cause 4." */
    private static void ownersOfEachChannel() {
        for (int kind = 1; kind <= 5; kind++) {
            for (int h = 0; h < 3; h++) {
                for (int owner = 0; owner <= 3; owner++) {
                    OrderChains x = Engines.ordered(h, 0, kind, 40, 50, 2, 1, 30);
                    x.own(50, 2, owner);
                    boolean foreign = owner != 0 && owner != h + 1;
                    String what = "kind " + kind + ", channel " + h + ", owner " + owner;
                    checkCause(what, x, h, 2, foreign ? 4 : STILL_BUSY);
                    expect.that(what + ": writes", x.about(7), foreign ? 0 : kind == 5 ? 2 : 1);
                }
            }
        }
    }

    /** The same: a cell that would not be written may have any owner. */
    private static void foreignCellsThatAreReadAlone() {
        for (int kind = 1; kind <= 2; kind++) {
            OrderChains x = Engines.ordered(0, 0, kind, 40, 50, 1, 1, 30);
            x.poke(40, 9);
            x.own(40, 1, 2);
            checkCause("kind " + kind + " from a foreign cell", x, 0, 2, STILL_BUSY);
            expect.that("its value", x.cell(50, 0), 9);
        }
        for (int kind = 3; kind <= 4; kind++) {
            OrderChains x = Engines.ordered(0, 0, kind, 40, 50, 1, 1, 30);
            x.own(40, 1, 2);
            checkCause("kind " + kind + " with a value that is a foreign cell's number", x, 0, 2, STILL_BUSY);
            expect.that("its value", x.cell(50, 0), 40);
        }
        OrderChains choice = Engines.ordered(0, 0, 6, 40, 50, 0, 0, 30);
        choice.own(40, 11, 2);
        checkCause("a choice of a foreign cell", choice, 0, 2, STILL_BUSY);
        OrderChains own = Engines.ordered(0, 0, 3, 7, 50, 1, 1, 30);
        own.own(0, 6, 2);
        checkCause("an order in foreign cells", own, 0, 2, STILL_BUSY);
    }

    /** "Nothing is written then": neither of the two cells. */
    private static void exchangeWithOneForeignCell() {
        int[] foreign = {40, 50};
        for (int c : foreign) {
            OrderChains x = Engines.ordered(0, 0, 5, 40, 50, 1, 1, 30);
            x.poke(40, 1);
            x.poke(50, 2);
            x.own(c, 1, 3);
            checkCause("an exchange with the foreign cell " + c, x, 0, 2, 4);
            expect.cells(x, 40, 1);
            expect.cells(x, 50, 2);
            expect.that("writes", x.about(7), 0);
            expect.that("writer of 40", x.cell(40, 3), NONE);
        }
    }

    /** The cause 3 is named first. */
    private static void cause3ComesAheadOfCause4() {
        OrderChains copy = Engines.ordered(0, 0, 1, 96, 50, 1, 1, 30);
        copy.own(50, 1, 2);
        checkCause("a copy from the cell 96 to a foreign one", copy, 0, 2, 3);
        OrderChains exchange = Engines.ordered(0, 0, 5, 50, 96, 1, 1, 30);
        exchange.own(50, 1, 2);
        checkCause("an exchange of a foreign cell with the cell 96", exchange, 0, 2, 3);
        OrderChains other = Engines.ordered(0, 0, 5, 96, 50, 1, 1, 30);
        other.own(50, 1, 2);
        checkCause("an exchange of the cell 96 with a foreign cell", other, 0, 2, 3);
    }

    /** "Nothing is written then": by this unit; what was written stays. */
    private static void earlierUnitsOfAFaultStay() {
        OrderChains x = Engines.ordered(0, 0, 3, 7, 50, 3, 1, 30);
        x.own(52, 1, 2);
        checkCause("two units", x, 0, 3, STILL_BUSY);
        checkCause("the last unit", x, 0, 1, 4);
        expect.cells(x, 50, 7, 7, 0);
        expect.that("cells of the channel", x.channel(0, 7), 2);
        expect.that("ticks", x.about(0), 4);
    }

    /** "A done or faulty channel has no order in hand; its head stays." */
    private static void aFaultKeepsTheHead() {
        int[][] orders = {{0, 0, 0, 0, 0, 0}, {7, 0, 0, 0, 0, 50}, {3, 1, 96, 1, 1, 50}, {3, 1, 60, 1, 1, 50}};
        int[] conditions = {2, 3, 3, 3};
        for (int k = 0; k < orders.length; k++) {
            OrderChains x = Engines.ordered(1, 12, orders[k]);
            x.own(60, 1, 1);
            x.run(99);
            expect.that("order " + k + ": condition", x.channel(1, 0), conditions[k]);
            expect.that("order " + k + ": head", x.channel(1, 1), 12);
            expect.that("order " + k + ": place", x.channel(1, 3), NONE);
            expect.that("order " + k + ": kind", x.channel(1, 4), NONE);
            expect.that("order " + k + ": units", x.channel(1, 5), 0);
        }
    }

    /** "What is written into the cells of an order in hand later does not change it." */
    private static void anOrderInHandDoesNotChange() {
        for (int changed = 0; changed < 6; changed++) {
            int[][] orders = {{1, 40, 50, 3, 2, 30}, {3, 40, 50, 3, 2, 30}, {6, 40, 11, 0, 0, 30}};
            for (int[] order : orders) {
                OrderChains x = Engines.ordered(0, 0, order);
                OrderChains y = Engines.ordered(0, 0, order);
                Engines.lay(x, 40, 11, 12, 13);
                Engines.lay(y, 40, 11, 12, 13);
                x.run(1);
                y.run(1);
                x.poke(changed, 90);
                x.run(99);
                y.run(99);
                expect.that("head at the end", x.channel(0, 1), y.channel(0, 1));
                expect.that("ticks at the end", x.about(0), y.about(0));
                for (int c = 40; c < 60; c++) {
                    expect.that("cell " + changed + " changed: value of " + c, x.cell(c, 0), y.cell(c, 0));
                }
            }
        }
    }

    /** The same: what is written ahead of reading does change an order. */
    private static void theNextOrderIsReadAsItIs() {
        OrderChains x = Engines.ordered(0, 0, 3, 7, 6, 1, 1, 6);
        x.order(6, 3, 1, 50, 1);
        x.run(99);
        expect.that("the kind that was written over it", x.channel(0, 2), 2);
        OrderChains y = Engines.ordered(0, 0, 3, 4, 0, 1, 1, 0);
        y.run(2);
        y.run(1);
        expect.that("an order that wrote over its own kind", y.channel(0, 4), 4);
    }

    /** "A write into a cell that is marked as read is an edit": the first and the last cell of an order. */
    private static void editsAtTheEdgesOfAnOrder() {
        for (int c = 39; c <= 46; c++) {
            OrderChains x = Engines.ordered(0, 40, 3, 7, c, 1, 1, 30);
            x.run(2);
            expect.that("edits by a write into " + c, x.about(6), c >= 40 && c <= 45 ? 1 : 0);
        }
        OrderChains last = Engines.ordered(0, 90, 3, 7, 95, 1, 1, 0);
        last.run(2);
        expect.that("edits by a write into 95", last.about(6), 1);
        OrderChains first = Engines.ordered(0, 0, 3, 7, 0, 1, 1, 30);
        first.run(2);
        expect.that("edits by a write into 0", first.about(6), 1);
    }

    /** "(whoever reads and writes)". */
    private static void editsOfWhoeverReadsAndWrites() {
        for (int reader = 0; reader < 3; reader++) {
            for (int writer = 0; writer < 3; writer++) {
                OrderChains x = new OrderChains();
                x.start(reader, 60);
                x.run(1);
                x.order(0, 3, 7, 65, 2);
                x.start(writer, 0);
                x.run(3);
                expect.that("edits by " + writer + " behind " + reader, x.about(6), 1);
            }
        }
    }
}
