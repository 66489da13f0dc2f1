/** The section "Exceptions": which one is thrown, and that a call that throws one changes nothing. */
public final class RefusedCallsTest {
    private static final Expect expect = new Expect("RefusedCallsTest");
    private static final int LEAST = Integer.MIN_VALUE;
    private static final int GREATEST = Integer.MAX_VALUE;

    public static void main(String[] args) {
        cellsAndChannelsAheadOfOtherArguments();
        cellsAndChannelsAheadOfStates();
        slotsAheadOfStates();
        argumentsAheadOfStates();
        refusedQuestions();
        refusedActions();
        refusedCallsOfStates();
        refusedLookingAhead();
        refusedScriptsAndSimulations();
        refusedSlots();
        refusedAppends();
        refusedLoads();
        refusedUndo();
        expect.finish();
    }

    private interface Call {
        void on(OrderChains x);
    }

    /**
     * The text is not an engine, 14 states are remembered, the slot 0 is full and the slot 1 is empty; channel 0 is
     * busy with an order in hand, 1 is done and 2 is faulty.
     */
    private static OrderChains scene() {
        OrderChains x = new OrderChains();
        x.append('E');
        x.append('0');
        x.poke(0, 4);
        x.save(0);
        Engines.lay(x, 1, 3, 50, 9, 2, 30);
        x.own(51, 1, 2);
        x.own(95, 1, 3);
        x.start(0, 0);
        x.start(1, 12);
        x.start(2, 95);
        x.run(4);
        x.poke(70, 1);
        x.poke(70, 2);
        x.poke(70, 3);
        return x;
    }

    /** The same, but channel 0 is stopped. */
    private static OrderChains quietScene() {
        OrderChains x = scene();
        x.stop(0);
        return x;
    }

    /** Whatever an object can tell, at the cost of the object. */
    private static String wholeStory(OrderChains x) {
        StringBuilder story = new StringBuilder(Engines.everything(x));
        story.append(x.later(56, 11)).append(' ').append(x.errorPosition()).append(' ').append(x.clearText());
        for (int state = 13; state >= 0; state--) {
            story.append(' ').append(x.undo()).append(' ').append(x.about(5)).append(' ').append(x.about(4));
        }
        expect.fails("undo of more than 14 states", Engines.STATE, () -> x.undo());
        expect.fails("restore of the empty slot", Engines.STATE, () -> x.restore(1));
        story.append(' ').append(x.restore(0)).append(' ').append(x.cell(0, 0)).append(' ').append(x.cell(1, 0));
        return story.toString();
    }

    private static void refused(String what, Class<? extends RuntimeException> due, Call call) {
        OrderChains x = scene();
        expect.fails(what, due, () -> call.on(x));
        expect.same("the object behind the refused " + what, wholeStory(x), wholeStory(scene()));
    }

    private static void refusedWhenQuiet(String what, Class<? extends RuntimeException> due, Call call) {
        OrderChains x = quietScene();
        expect.fails(what, due, () -> call.on(x));
        expect.same("the quiet object behind the refused " + what, wholeStory(x), wholeStory(quietScene()));
    }

    private static void noSuch(String what, Call call) {
        refused(what, Engines.INDEX, call);
    }

    private static void outOfRange(String what, Call call) {
        refused(what, Engines.ARGUMENT, call);
    }

    /** "If several exceptions apply to a call, the one that its description names first is thrown." */
    private static void cellsAndChannelsAheadOfOtherArguments() {
        int[] strange = {LEAST, -1, 100, GREATEST};
        for (int v : strange) {
            for (int c : Engines.NOT_CELLS) {
                noSuch("cell(" + c + ", " + v + ")", x -> x.cell(c, v));
                noSuch("chain(" + c + ", " + v + ")", x -> x.chain(c, v));
                noSuch("poke(" + c + ", " + v + ")", x -> x.poke(c, v));
                noSuch("order(" + c + ", " + v + ", ..)", x -> x.order(c, v, v, v, v));
                noSuch("own(" + c + ", " + v + ", " + v + ")", x -> x.own(c, v, v));
                noSuch("later(" + c + ", " + v + ")", x -> x.later(c, v));
            }
            for (int h : Engines.NOT_CHANNELS) {
                noSuch("channel(" + h + ", " + v + ")", x -> x.channel(h, v));
            }
        }
        noSuch("later(96, 501)", x -> x.later(96, 501));
        noSuch("start(3, 96)", x -> x.start(3, 96));
        noSuch("start(-1, -1)", x -> x.start(-1, -1));
        outOfRange("order(91, 100, ..)", x -> x.order(91, 100, 100, 100, 100));
        outOfRange("own(95, 0, 4)", x -> x.own(95, 0, 4));
        outOfRange("runScript(0, -1)", x -> x.runScript(0, -1));
    }

    /** The same, for a channel that does not exist, and so is not busy. */
    private static void cellsAndChannelsAheadOfStates() {
        for (int h : Engines.NOT_CHANNELS) {
            noSuch("stop(" + h + ")", x -> x.stop(h));
            refusedWhenQuiet("stop(" + h + ")", Engines.INDEX, x -> x.stop(h));
        }
    }

    /** The same, for a slot that does not exist, and so is empty. */
    private static void slotsAheadOfStates() {
        for (int slot : Engines.NOT_SLOTS) {
            noSuch("restore(" + slot + ")", x -> x.restore(slot));
            OrderChains x = new OrderChains();
            expect.fails("restore(" + slot + ") of a new object", Engines.INDEX, () -> x.restore(slot));
        }
    }

    /** The same, when no channel is busy, or the text is full. */
    private static void argumentsAheadOfStates() {
        int[] notTicks = {LEAST, -1, 0, 100, GREATEST};
        for (int n : notTicks) {
            refusedWhenQuiet("run(" + n + ")", Engines.ARGUMENT, x -> x.run(n));
        }
        OrderChains full = Engines.typed("E".repeat(140));
        int[] notCodes = {LEAST, -1, 256, GREATEST};
        for (int c : notCodes) {
            expect.fails("append(" + c + ") to a full text", Engines.ARGUMENT, () -> full.append(c));
        }
        expect.that("the text is full still", full.clearText(), 140);
    }

    private static void refusedQuestions() {
        int[] wrong = {LEAST, -1, 10, GREATEST};
        for (int what : wrong) {
            outOfRange("about(" + what + ")", x -> x.about(what));
            outOfRange("cell(0, " + what + ")", x -> x.cell(0, what));
            outOfRange("channel(0, " + what + ")", x -> x.channel(0, what));
            outOfRange("chain(0, " + what + ")", x -> x.chain(0, what));
        }
        outOfRange("cell(0, 4)", x -> x.cell(0, 4));
        outOfRange("channel(0, 8)", x -> x.channel(0, 8));
        outOfRange("chain(0, 2)", x -> x.chain(0, 2));
        for (int c : Engines.NOT_CELLS) {
            noSuch("cell(" + c + ", 0)", x -> x.cell(c, 0));
            noSuch("chain(" + c + ", 0)", x -> x.chain(c, 0));
        }
        for (int h : Engines.NOT_CHANNELS) {
            noSuch("channel(" + h + ", 0)", x -> x.channel(h, 0));
        }
    }

    private static void refusedActions() {
        for (int c : Engines.NOT_CELLS) {
            noSuch("poke(" + c + ", 5)", x -> x.poke(c, 5));
            noSuch("order(" + c + ", ..)", x -> x.order(c, 5, 5, 5, 5));
            noSuch("own(" + c + ", 5, 1)", x -> x.own(c, 5, 1));
            noSuch("start(1, " + c + ")", x -> x.start(1, c));
        }
        for (int h : Engines.NOT_CHANNELS) {
            noSuch("start(" + h + ", 5)", x -> x.start(h, 5));
        }
        for (int v : Engines.NOT_VALUES) {
            outOfRange("poke(5, " + v + ")", x -> x.poke(5, v));
            outOfRange("order of the kind " + v, x -> x.order(5, v, 5, 5, 5));
            outOfRange("order from " + v, x -> x.order(5, 5, v, 5, 5));
            outOfRange("order to " + v, x -> x.order(5, 5, 5, v, 5));
            outOfRange("order of the count " + v, x -> x.order(5, 5, 5, 5, v));
        }
        for (int a = 91; a <= 95; a++) {
            int place = a;
            outOfRange("order(" + a + ", ..)", x -> x.order(place, 5, 5, 5, 5));
        }
        int[] notNumbers = {LEAST, -1, 0, 97, GREATEST};
        for (int n : notNumbers) {
            outOfRange("own(5, " + n + ", 1)", x -> x.own(5, n, 1));
        }
        int[] notOwners = {LEAST, -1, 4, GREATEST};
        for (int owner : notOwners) {
            outOfRange("own(5, 5, " + owner + ")", x -> x.own(5, 5, owner));
        }
        int[] notTicks = {LEAST, -1, 0, 100, GREATEST};
        for (int n : notTicks) {
            outOfRange("run(" + n + ")", x -> x.run(n));
        }
    }

    private static void refusedCallsOfStates() {
        refused("stop of a done one", Engines.STATE, x -> x.stop(1));
        refused("stop of a faulty one", Engines.STATE, x -> x.stop(2));
        refusedWhenQuiet("stop of an idle one", Engines.STATE, x -> x.stop(0));
        refusedWhenQuiet("run(1)", Engines.STATE, x -> x.run(1));
        refusedWhenQuiet("run(99)", Engines.STATE, x -> x.run(99));
        refused("load", Engines.STATE, x -> x.load());
        refused("restore of the empty slot", Engines.STATE, x -> x.restore(1));
    }

    private static void refusedLookingAhead() {
        for (int h : Engines.NOT_CHANNELS) {
            noSuch("ends(" + h + ")", x -> x.ends(h));
            noSuch("endOf(" + h + ")", x -> x.endOf(h));
            noSuch("alone(" + h + ")", x -> x.alone(h));
        }
        for (int c : Engines.NOT_CELLS) {
            noSuch("later(" + c + ", 5)", x -> x.later(c, 5));
        }
        int[] wrong = {LEAST, -1, 501, GREATEST};
        for (int n : wrong) {
            outOfRange("later(5, " + n + ")", x -> x.later(5, n));
            outOfRange("contested(" + n + ")", x -> x.contested(n));
        }
    }

    private static void refusedScriptsAndSimulations() {
        int[] notNumbers = {LEAST, -1, 0, 4, GREATEST};
        for (int n : notNumbers) {
            outOfRange("runScript(" + n + ", 10505)", x -> x.runScript(n, 10505));
        }
        long[] notScripts = {Long.MIN_VALUE, -10505, -1, 100000, 110505, Long.MAX_VALUE};
        for (long script : notScripts) {
            outOfRange("runScript(1, " + script + ")", x -> x.runScript(1, script));
        }
        outOfRange("runScript(2, ..)", x -> x.runScript(2, 10000000000L));
        outOfRange("runScript(3, ..)", x -> x.runScript(3, 1000000000000000L));
        int[] notRounds = {LEAST, -1, 0, 51, GREATEST};
        for (int m : notRounds) {
            outOfRange("simulate(1, " + m + ")", x -> x.simulate(1, m));
        }
    }

    private static void refusedSlots() {
        for (int slot : Engines.NOT_SLOTS) {
            noSuch("save(" + slot + ")", x -> x.save(slot));
            noSuch("restore(" + slot + ")", x -> x.restore(slot));
        }
    }

    private static void refusedAppends() {
        int[] notCodes = {LEAST, -1, 256, GREATEST};
        for (int c : notCodes) {
            outOfRange("append(" + c + ")", x -> x.append(c));
        }
        String text = "E" + "12".repeat(69) + "3";
        OrderChains x = Engines.typed(text);
        x.poke(0, 5);
        x.save(0);
        x.poke(0, 6);
        String before = Engines.brief(x);
        expect.fails("append to a full text", Engines.STATE, () -> x.append('4'));
        expect.same("the state behind it", Engines.brief(x), before);
        expect.that("the error position behind it", x.errorPosition(), 140);
        expect.that("undo behind it", x.undo(), 1);
        expect.that("restore behind it", x.restore(0), 0);
        expect.that("the length behind it", x.clearText(), 140);
    }

    /** "IllegalStateException if the text is not an engine": whatever its beginning tells. */
    private static void refusedLoads() {
        String[] texts = {"", "x", "E7", "E@5077o3s1", "E11223344s000s112s2957", "E@95778", "E77s000s000"};
        for (String text : texts) {
            OrderChains x = scene();
            OrderChains untouched = scene();
            Engines.type(x, text);
            Engines.type(untouched, text);
            expect.fails("load of " + text, Engines.STATE, () -> x.load());
            expect.same("the object behind the refused load of " + text, wholeStory(x), wholeStory(untouched));
        }
    }

    private static void refusedUndo() {
        OrderChains x = new OrderChains();
        x.append('E');
        x.start(0, 0);
        x.save(0);
        x.restore(0);
        expect.fails("undo of nothing", Engines.STATE, () -> x.undo());
        OrderChains untouched = new OrderChains();
        untouched.append('E');
        untouched.start(0, 0);
        expect.same("the state behind it", Engines.everything(x), Engines.everything(untouched));
        expect.that("the slot behind it", x.restore(0), 0);
        expect.that("the text behind it", x.clearText(), 1);
        expect.fails("undo of nothing again", Engines.STATE, () -> x.undo());
    }
}
