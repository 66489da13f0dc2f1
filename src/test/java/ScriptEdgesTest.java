/** The sentences of promises 23 and 24 that name a boundary: a test for each. */
public final class ScriptEdgesTest {
    private static final Expect expect = new Expect("ScriptEdgesTest");
    private static final int NONE = OrderChains.NONE;
    private static final long TEN_DIGITS = 10000000000L;
    private static final long FIFTEEN_DIGITS = 1000000000000000L;
    /** A number r for which no channel starts and the value is 28, also if less than 96 is added. */
    private static final int WITHOUT_START = 16384;
    /** A number r for which no channel starts and the cell 64 gets the value 0. */
    private static final int VALUE_0 = 128 * 200;

    public static void main(String[] args) {
        from1To3Commands();
        scriptsFrom0();
        scriptsOf5DigitsACommand();
        theFirstCommandIsTheHighestGroup();
        zerosBeforeTheNumber();
        theFirstThatFails();
        commandsBehindOneThatFails();
        pokesOfCell95AndCell96();
        pokesOfValue0AndValue99();
        runsFrom1To99();
        runsWithoutABusyOne();
        runsWithAnotherDigit();
        startsOfChannel2AndChannel3();
        startsAtHead95AndHead96();
        startsWithAnotherDigit();
        stopsOfChannel2AndChannel3();
        stopsOfOneThatIsNotBusy();
        stopsWithAnotherDigit();
        ownsOfCell95AndCell96();
        ownsFrom1To9Cells();
        ownsForOwner3AndOwner4();
        asksForTheValueOfCell95AndCell96();
        asksForValue0AndValue99();
        asksForEachCondition();
        asksForConditionsThatDoNotExist();
        asksForTheConditionOfChannel3();
        asksForAtLeastAsManyCells();
        asksForTheCellsOfChannel3();
        asksForAtMostAsManyEdits();
        asksForUpTo99Edits();
        groupsThatBeginWith0();
        aScriptWorksOnACopy();
        from1To50Rounds();
        anySeed();
        theLeastAndTheGreatestNumber();
        theFirstAndTheLastCell();
        values0And99();
        startsIfTheRemainderIs0();
        startsOfEachChannel();
        startsFromHead0To90();
        startsWhateverItIs();
        eightTicks();
        asFarAsThereAreTicks();
        theNumberIsReplacedInEachRound();
        faultyOnesAtTheEnd();
        theSumOfFullCells();
        aSimulationWorksOnACopy();
        expect.finish();
    }

    private static void check(OrderChains x, int n, long script, int due) {
        expect.that("runScript(" + n + ", " + script + ")", x.runScript(n, script), due);
    }

    private static void check(OrderChains x, long group, boolean succeeds) {
        check(x, 1, group, succeeds ? NONE : 0);
    }

    /** Simulates the one round that computes r. */
    private static int simulate(OrderChains x, int r) {
        return x.simulate(Seeds.thatGives(r), 1);
    }

    /** "n: number of commands, 1 to 3". */
    private static void from1To3Commands() {
        OrderChains x = new OrderChains();
        check(x, 1, 10000L, NONE);
        check(x, 2, 1000010000L, NONE);
        check(x, 3, 100001000010000L, NONE);
        int[] wrong = {-1, 0, 4, Integer.MIN_VALUE, Integer.MAX_VALUE};
        for (int n : wrong) {
            expect.fails("runScript(" + n + ", 0)", Engines.ARGUMENT, () -> x.runScript(n, 0));
            expect.fails("runScript(" + n + ", 10000)", Engines.ARGUMENT, () -> x.runScript(n, 10000));
        }
    }

    /** "(0 or more)"; "IllegalArgumentException .. if script is negative". */
    private static void scriptsFrom0() {
        OrderChains x = new OrderChains();
        for (int n = 1; n <= 3; n++) {
            int commands = n;
            check(x, n, 0, 0);
            expect.fails("-1", Engines.ARGUMENT, () -> x.runScript(commands, -1));
            expect.fails("-10000", Engines.ARGUMENT, () -> x.runScript(commands, -10000));
            expect.fails("the least number", Engines.ARGUMENT, () -> x.runScript(commands, Long.MIN_VALUE));
        }
    }

    /** "or has more than 5 * n digits". */
    private static void scriptsOf5DigitsACommand() {
        OrderChains x = new OrderChains();
        long[] least = {100000L, TEN_DIGITS, FIFTEEN_DIGITS};
        for (int n = 1; n <= 3; n++) {
            int commands = n;
            long tooLong = least[n - 1];
            check(x, n, tooLong - 1, 0);
            expect.fails("a digit more", Engines.ARGUMENT, () -> x.runScript(commands, tooLong));
            expect.fails("the same and 1", Engines.ARGUMENT, () -> x.runScript(commands, tooLong + 10000));
            expect.fails("the greatest number", Engines.ARGUMENT, () -> x.runScript(commands, Long.MAX_VALUE));
        }
        check(x, 1, 19599L, NONE);
        check(x, 2, 1959919599L, NONE);
        check(x, 3, 195991959919599L, NONE);
        check(x, 3, 199991959919599L, 0);
    }

    /** "the first command is the highest group of the number". */
    private static void theFirstCommandIsTheHighestGroup() {
        OrderChains x = new OrderChains();
        check(x, 2, 1000760007L, NONE);
        check(x, 2, 6000710007L, 0);
        check(x, 3, 100071000860008L, NONE);
        check(x, 3, 100081000760007L, NONE);
        check(x, 3, 100081000760008L, 2);
    }

    /** "(with zeros before it, if it has fewer digits)". */
    private static void zerosBeforeTheNumber() {
        OrderChains x = new OrderChains();
        check(x, 2, 10000L, 0);
        check(x, 3, 1000010000L, 0);
        check(x, 1, 1L, 0);
        check(x, 1, 9999L, 0);
    }

    /** "Returns the index, from 0, of the first command that fails; NONE if all succeed." */
    private static void theFirstThatFails() {
        OrderChains x = new OrderChains();
        long works = 10000L;
        long fails = 19600L;
        check(x, works, true);
        check(x, fails, false);
        for (int bits = 0; bits < 8; bits++) {
            long script = 0;
            int first = NONE;
            for (int index = 0; index < 3; index++) {
                boolean failing = (bits >> index & 1) == 1;
                script = script * 100000 + (failing ? fails : works);
                first = failing && first == NONE ? index : first;
            }
            check(x, 3, script, first);
        }
    }

    /** The same: they are not looked at. */
    private static void commandsBehindOneThatFails() {
        OrderChains x = new OrderChains();
        check(x, 3, 600010000000000L, 0);
        check(x, 3, 100010000000000L, 1);
        check(x, 3, 100016000200000L, 1);
    }

    /** "commands with cells .. that do not exist fail": 1 c c v v. */
    private static void pokesOfCell95AndCell96() {
        OrderChains x = new OrderChains();
        for (int c = 0; c <= 99; c++) {
            check(x, 10001L + 100 * c, c <= 95);
            if (c <= 95) {
                check(x, 2, (10001L + 100 * c) * 100000 + 60001 + 100 * c, NONE);
            }
        }
    }

    /** "cc, vv and xy are decimal numbers." */
    private static void pokesOfValue0AndValue99() {
        OrderChains x = new OrderChains();
        for (int v = 0; v <= 99; v++) {
            check(x, 2, (11200L + v) * 100000 + 61200 + v, NONE);
            check(x, 2, (11200L + v) * 100000 + 61200 + (v + 1) % 100, 1);
        }
    }

    /** "2 0 0 x y: run(xy)"; "The commands 1 to 5 fail if the method would throw an exception". */
    private static void runsFrom1To99() {
        OrderChains x = Engines.ordered(0, 0, 4, 1, 50, 99, 0, 6);
        check(x, 20000L, false);
        for (int n = 1; n <= 99; n++) {
            check(x, 2, (20000L + n) * 100000 + 65000 + n - 1, NONE);
        }
    }

    /** The same. */
    private static void runsWithoutABusyOne() {
        OrderChains x = new OrderChains();
        check(x, 20001L, false);
        check(x, 20099L, false);
        x.start(0, 0);
        check(x, 20001L, true);
        check(x, 20099L, true);
        check(x, 2, 2000120001L, 1);
        check(x, 2, 2009920001L, 1);
    }

    /** "so does any other group (also one with another digit where a 0 is written)". */
    private static void runsWithAnotherDigit() {
        OrderChains x = Engines.ordered(0, 0, 4, 1, 50, 99, 0, 6);
        for (int digit = 1; digit <= 9; digit++) {
            check(x, 20001L + 1000 * digit, false);
            check(x, 20001L + 100 * digit, false);
        }
    }

    /** "3 h c c 0: start(h, cc)"; "commands with .. channels that do not exist fail". */
    private static void startsOfChannel2AndChannel3() {
        OrderChains x = new OrderChains();
        for (int h = 0; h <= 9; h++) {
            check(x, 30000L + 1000 * h, h <= 2);
            if (h <= 2) {
                check(x, 2, (30000L + 1000 * h) * 100000 + 70001 + 1000 * h, NONE);
            }
        }
    }

    /** "commands with cells .. that do not exist fail". */
    private static void startsAtHead95AndHead96() {
        OrderChains x = new OrderChains();
        for (int a = 0; a <= 99; a++) {
            check(x, 31000L + 10 * a, a <= 95);
            if (a <= 95) {
                int condition = a <= 90 ? 2 : 3;
                check(x, 3, ((31000L + 10 * a) * 100000 + 20001) * 100000 + 71000 + condition, NONE);
            }
        }
    }

    /** "(also one with another digit where a 0 is written)". */
    private static void startsWithAnotherDigit() {
        OrderChains x = new OrderChains();
        for (int digit = 1; digit <= 9; digit++) {
            check(x, 30000L + digit, false);
        }
    }

    /** "4 h 0 0 0: stop(h)"; "commands with .. channels that do not exist fail". */
    private static void stopsOfChannel2AndChannel3() {
        OrderChains x = Engines.loaded("Es000s100s200");
        for (int h = 0; h <= 9; h++) {
            check(x, 40000L + 1000 * h, h <= 2);
            if (h <= 2) {
                check(x, 2, (40000L + 1000 * h) * 100000 + 70000 + 1000 * h, NONE);
            }
        }
    }

    /** "The commands 1 to 5 fail if the method would throw an exception". */
    private static void stopsOfOneThatIsNotBusy() {
        OrderChains x = Engines.loaded("Es000s191");
        x.run(2);
        for (int h = 0; h <= 2; h++) {
            check(x, 40000L + 1000 * h, false);
        }
        check(x, 3, 320004200042000L, 2);
    }

    /** "(also one with another digit where a 0 is written)". */
    private static void stopsWithAnotherDigit() {
        OrderChains x = Engines.loaded("Es000");
        for (int digit = 1; digit <= 9; digit++) {
            check(x, 40000L + digit, false);
            check(x, 40000L + 10 * digit, false);
            check(x, 40000L + 100 * digit, false);
        }
    }

    /** "5 c c w n: own(cc, n, w)"; "commands with cells .. that do not exist fail". */
    private static void ownsOfCell95AndCell96() {
        OrderChains x = new OrderChains();
        for (int c = 0; c <= 99; c++) {
            check(x, 50011L + 100 * c, c <= 95);
        }
    }

    /** "(n from 1)", "as far as there are any". */
    private static void ownsFrom1To9Cells() {
        OrderChains x = new OrderChains();
        check(x, 59019L, true);
        check(x, 59519L, true);
        check(x, 50010L, false);
        for (int n = 1; n <= 9; n++) {
            check(x, 50010L + n, true);
            // The fill writes the cells 50 to 59; it is faulty at the first one that channel 2 owns.
            OrderChains y = Engines.ordered(0, 0, 3, 7, 50, 1, 1, 30);
            y.poke(2, 49 + n);
            check(y, 3, (55030L + n) * TEN_DIGITS + 2000270003L, NONE);
            y.poke(2, 50 + n);
            check(y, 3, (55030L + n) * TEN_DIGITS + 2000270001L, NONE);
        }
    }

    /** "The commands 1 to 5 fail if the method would throw an exception": w is 0 to 3. */
    private static void ownsForOwner3AndOwner4() {
        OrderChains x = Engines.ordered(1, 0, 3, 7, 50, 1, 1, 30);
        for (int owner = 0; owner <= 9; owner++) {
            check(x, 55001L + 10 * owner, owner <= 3);
            if (owner <= 3) {
                int condition = owner == 0 || owner == 2 ? 1 : 3;
                check(x, 3, (55001L + 10 * owner) * TEN_DIGITS + 2000271000L + condition, NONE);
            }
        }
    }

    /** "6 c c v v: succeeds if the cell cc has the value vv"; "commands with cells .. that do not exist fail". */
    private static void asksForTheValueOfCell95AndCell96() {
        OrderChains x = new OrderChains();
        x.poke(95, 7);
        for (int c = 0; c <= 99; c++) {
            check(x, 60000L + 100 * c, c <= 94);
            check(x, 60007L + 100 * c, c == 95);
        }
    }

    /** "cc, vv and xy are decimal numbers." */
    private static void asksForValue0AndValue99() {
        OrderChains x = new OrderChains();
        int[] values = {0, 1, 9, 10, 98, 99};
        for (int v : values) {
            x.poke(10, v);
            for (int asked : values) {
                check(x, 61000L + asked, asked == v);
            }
        }
    }

    /** "7 h 0 0 s: succeeds if the channel h is s (0 idle, 1 busy, 2 done, 3 faulty)". */
    private static void asksForEachCondition() {
        OrderChains x = new OrderChains();
        for (int s = 0; s <= 3; s++) {
            check(x, 70000L + s, s == 0);
        }
        for (int condition = 1; condition <= 3; condition++) {
            x.start(2, condition == 3 ? 91 : 0);
            if (condition > 1) {
                x.run(1);
            }
            for (int s = 0; s <= 3; s++) {
                check(x, 72000L + s, s == condition);
            }
        }
    }

    /** "so does any other group". */
    private static void asksForConditionsThatDoNotExist() {
        OrderChains x = new OrderChains();
        for (int s = 4; s <= 9; s++) {
            check(x, 70000L + s, false);
        }
        for (int digit = 1; digit <= 9; digit++) {
            check(x, 70000L + 10 * digit, false);
            check(x, 70000L + 100 * digit, false);
        }
    }

    /** "commands with .. channels that do not exist fail". */
    private static void asksForTheConditionOfChannel3() {
        OrderChains x = new OrderChains();
        for (int h = 0; h <= 9; h++) {
            check(x, 70000L + 1000 * h, h <= 2);
        }
    }

    /** "8 h 0 x y: succeeds if the channel h wrote at least xy cells so far". */
    private static void asksForAtLeastAsManyCells() {
        OrderChains x = Engines.ordered(1, 0, 3, 7, 50, 99, 0, 30);
        int written = 0;
        for (int ticks = 0; ticks < 5; ticks++) {
            for (int asked = 0; asked <= 6; asked++) {
                check(x, 81000L + asked, asked <= written);
            }
            x.run(1);
            written = ticks;
            expect.that("cells so far", x.channel(1, 7), written);
        }
        x.run(99);
        check(x, 81098L, true);
        check(x, 81099L, true);
        check(x, 80001L, false);
        for (int digit = 1; digit <= 9; digit++) {
            check(x, 81000L + 100 * digit, false);
        }
    }

    /** "commands with .. channels that do not exist fail". */
    private static void asksForTheCellsOfChannel3() {
        OrderChains x = new OrderChains();
        for (int h = 0; h <= 9; h++) {
            check(x, 80000L + 1000 * h, h <= 2);
        }
    }

    /** "9 0 0 x y: succeeds if there were at most xy edits so far". */
    private static void asksForAtMostAsManyEdits() {
        OrderChains x = Engines.ordered(0, 0, 3, 7, 0, 4, 1, 30);
        for (int ticks = 0; ticks <= 5; ticks++) {
            for (int asked = 0; asked <= 6; asked++) {
                check(x, 90000L + asked, asked >= Math.max(0, ticks - 1));
            }
            if (ticks < 5) {
                x.run(1);
            }
        }
        for (int digit = 1; digit <= 9; digit++) {
            check(x, 90099L + 100 * digit, false);
            check(x, 90099L + 1000 * digit, false);
        }
    }

    /** The same: the greatest xy. */
    private static void asksForUpTo99Edits() {
        OrderChains x = Engines.ordered(0, 0, 3, 3, 0, 99, 0, 0);
        x.run(99);
        x.run(1);
        expect.that("edits", x.about(6), 99);
        check(x, 90098L, false);
        check(x, 90099L, true);
        x.run(2);
        expect.that("edits", x.about(6), 100);
        check(x, 90099L, false);
        check(x, 90000L, false);
    }

    /** "so does any other group". */
    private static void groupsThatBeginWith0() {
        OrderChains x = Engines.loaded("Es000");
        for (int group = 0; group < 10000; group += 100) {
            check(x, group, false);
            check(x, group + 1, false);
        }
    }

    /** "Runs a script on a copy of the state." */
    private static void aScriptWorksOnACopy() {
        String text = "E030120090112s000s120";
        OrderChains x = Engines.loaded(text);
        x.run(3);
        check(x, 3, 195992004050039L, NONE);
        check(x, 3, 400003205020099L, NONE);
        OrderChains untouched = Engines.loaded(text);
        untouched.run(3);
        expect.same("the state behind scripts", Engines.everything(x), Engines.everything(untouched));
        expect.that("undo of the run", x.undo(), 0);
    }

    /** "m: number of rounds, 1 to 50". */
    private static void from1To50Rounds() {
        OrderChains x = new OrderChains();
        PlainModel model = new PlainModel();
        for (int m = 1; m <= 50; m++) {
            expect.that("simulate(3, " + m + ")", x.simulate(3, m), model.simulate(3, m));
        }
        int[] wrong = {-1, 0, 51, Integer.MIN_VALUE, Integer.MAX_VALUE};
        for (int m : wrong) {
            expect.fails("simulate(3, " + m + ")", Engines.ARGUMENT, () -> x.simulate(3, m));
        }
    }

    /** "seed: any long"; "(with long overflow)". */
    private static void anySeed() {
        OrderChains x = Engines.loaded("E030150990112s000@3005102030120030s130");
        PlainModel model = new PlainModel();
        for (char c : "E030150990112s000@3005102030120030s130".toCharArray()) {
            model.append(c);
        }
        model.load();
        long[] seeds = {0, 1, -1, Integer.MIN_VALUE, Integer.MAX_VALUE, Long.MIN_VALUE, Long.MIN_VALUE + 1,
            Long.MAX_VALUE, Long.MAX_VALUE - 1};
        for (long seed : seeds) {
            expect.that("simulate(" + seed + ", 1)", x.simulate(seed, 1), model.simulate(seed, 1));
            expect.that("simulate(" + seed + ", 50)", x.simulate(seed, 50), model.simulate(seed, 50));
        }
        expect.that("the round of the seed 0 alone", new OrderChains().simulate(0, 1),
            (int) (1442695040888963407L >>> 33) / 128 % 100);
    }

    /** "r = (int) (x >>> 33) is computed": from 0 to the greatest int. */
    private static void theLeastAndTheGreatestNumber() {
        OrderChains x = new OrderChains();
        x.poke(0, 7);
        // r = 0: the cell 0 gets 0, the channel 0 starts with the head 0.
        expect.that("r = 0", simulate(x, 0), 0);
        // The greatest r: the cell 31 gets 15; r / 16384 % 4 is 3, so no channel starts.
        expect.that("the greatest r", simulate(x, Integer.MAX_VALUE), 7 + 15);
        x.poke(Integer.MAX_VALUE % 96, 50);
        expect.that("the greatest r, over 50", simulate(x, Integer.MAX_VALUE), 7 + 15);
    }

    /** "the cell r % 96 gets the value". */
    private static void theFirstAndTheLastCell() {
        for (int c = 0; c < 96; c++) {
            OrderChains x = new OrderChains();
            x.poke(c, 50);
            x.poke((c + 95) % 96, 1);
            int r = WITHOUT_START + Seeds.toCell(WITHOUT_START, c);
            expect.that("the cell " + c, simulate(x, r), 1 + 28);
        }
    }

    /** "the value r / 128 % 100": 0 and 99 among them. */
    private static void values0And99() {
        OrderChains x = new OrderChains();
        for (int v = 0; v <= 99; v++) {
            // r / 16384 % 4 is 1 or 2 here, so no channel starts.
            expect.that("the value " + v, simulate(x, 128 * (200 + v)), v);
            expect.that("the value " + v + " still", simulate(x, 128 * (200 + v) + 127), v);
        }
    }

    /** "if r / 16384 % 4 is 0": not if it is 1, 2 or 3. */
    private static void startsIfTheRemainderIs0() {
        for (int part = 0; part < 8; part++) {
            int r = 16384 * part + Seeds.toCell(16384 * part, 90);
            OrderChains x = withKind99At(0);
            int faulty = part % 4 == 0 ? 1 : 0;
            expect.that("part " + part, simulate(x, r), 10000 * faulty + 99 + r / 128 % 100);
        }
    }

    private static OrderChains withKind99At(int a) {
        OrderChains x = new OrderChains();
        x.poke(a, 99);
        return x;
    }

    /** "the channel r / 65536 % 3 starts". */
    private static void startsOfEachChannel() {
        for (int part = 0; part < 12; part++) {
            int r = 65536 * part + Seeds.toCell(65536 * part, 90);
            for (int h = 0; h < 3; h++) {
                OrderChains x = withKind99At(r / 262144 % 91);
                x.start(h, 91);
                x.run(1);
                // Either the faulty one starts, or another one, which is faulty besides it then.
                int faulty = part % 3 == h ? 1 : 2;
                String what = "part " + part + ", beside the faulty channel " + h;
                expect.that(what, simulate(x, r), 10000 * faulty + 99 + r / 128 % 100);
            }
        }
    }

    /** "with the head r / 262144 % 91": 90 at most. */
    private static void startsFromHead0To90() {
        for (int part = 0; part <= 182; part++) {
            int head = part % 91;
            int r = 262144 * part + Seeds.toCell(262144 * part, (head + 48) % 96);
            int v = r / 128 % 100;
            expect.that("a kind above 6 at " + head, simulate(withKind99At(head), r), 10000 + 99 + v);
            expect.that("a stop at " + head, simulate(new OrderChains(), r), v);
        }
    }

    /** The same: whatever the channel is, as start() does. */
    private static void startsWhateverItIs() {
        OrderChains busy = Engines.ordered(0, 30, 3, 7, 60, 9, 1, 40);
        busy.run(3);
        int sum = busy.about(5);
        expect.that("a busy one, at a stop", simulate(busy, 90), sum);
        int r = WITHOUT_START + Seeds.toCell(WITHOUT_START, 90);
        expect.that("without the start", simulate(busy, r), sum + 28 + 7 * 7);
        OrderChains faulty = new OrderChains();
        faulty.start(0, 91);
        faulty.run(1);
        expect.that("a faulty one, at a stop", simulate(faulty, 90), 0);
    }

    /** "then 8 ticks go by". */
    private static void eightTicks() {
        OrderChains x = Engines.ordered(0, 0, 4, 1, 50, 99, 0, 0);
        x.run(1);
        expect.that("8 units", simulate(x, VALUE_0), x.about(5) + 8);
        x.run(3);
        expect.that("8 more units", simulate(x, VALUE_0), x.about(5) + 8);
    }

    /** "as far as there are any". */
    private static void asFarAsThereAreTicks() {
        for (int count = 5; count <= 10; count++) {
            OrderChains x = Engines.ordered(0, 0, 4, 1, 50, count, 0, 30);
            x.run(1);
            expect.that(count + " units", simulate(x, VALUE_0), x.about(5) + Math.min(8, count));
        }
        expect.that("no tick", simulate(new OrderChains(), VALUE_0), 0);
    }

    /** "A long x starts as the seed (once). In each round x is first replaced". */
    private static void theNumberIsReplacedInEachRound() {
        int compared = 0;
        for (long seed = 0; seed < 200; seed++) {
            int[] values = new int[96];
            boolean starts = false;
            long x = seed;
            for (int round = 0; round < 3; round++) {
                x = x * 6364136223846793005L + 1442695040888963407L;
                int r = (int) (x >>> 33);
                values[r % 96] = r / 128 % 100;
                starts |= r / 16384 % 4 == 0;
            }
            if (!starts) {
                int sum = 0;
                for (int v : values) {
                    sum += v;
                }
                expect.that("three rounds of " + seed, new OrderChains().simulate(seed, 3), sum);
                compared++;
            }
        }
        expect.that("seeds without a start, more than 20", compared > 20 ? 1 : 0, 1);
    }

    /** "10000 * (the number of faulty channels at the end)": none to three. */
    private static void faultyOnesAtTheEnd() {
        OrderChains x = new OrderChains();
        for (int h = 0; h < 3; h++) {
            expect.that("faulty ones", simulate(x, VALUE_0), 10000 * h);
            x.start(h, 91);
            expect.that("one that becomes faulty", simulate(x, VALUE_0), 10000 * (h + 1));
            x.run(1);
        }
        expect.that("three faulty ones", simulate(x, VALUE_0), 30000);
    }

    /** "(the sum of all values at the end)": 9504 at most. */
    private static void theSumOfFullCells() {
        OrderChains x = new OrderChains();
        for (int c = 0; c < 96; c++) {
            x.poke(c, 99);
        }
        expect.that("all but one", simulate(x, VALUE_0), 95 * 99);
        expect.that("all cells", simulate(x, 128 * 299), 9504);
        for (int h = 0; h < 3; h++) {
            x.start(h, 91);
        }
        expect.that("all cells and channels", simulate(x, 128 * 299), 39504);
    }

    /** "Simulates m rounds on a copy of the state." */
    private static void aSimulationWorksOnACopy() {
        String text = "E030120090112s000s120";
        OrderChains x = Engines.loaded(text);
        x.run(3);
        x.simulate(5, 50);
        x.simulate(Long.MIN_VALUE, 50);
        OrderChains untouched = Engines.loaded(text);
        untouched.run(3);
        expect.same("the state behind simulations", Engines.everything(x), Engines.everything(untouched));
        expect.that("undo of the run", x.undo(), 0);
    }
}
