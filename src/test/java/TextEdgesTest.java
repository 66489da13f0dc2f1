/** The sentences of "Text" and of promises 1 to 5 that name a boundary: a test for each. */
public final class TextEdgesTest {
    private static final Expect expect = new Expect("TextEdgesTest");
    private static final int NONE = OrderChains.NONE;
    private static final String DIGITS = "0123456789";
    private static final int LIMIT = 140;

    public static void main(String[] args) {
        codesFrom0To255();
        atMost140Characters();
        clearTextOfNoTextAndOfAFullOne();
        theEmptyTextEndsTooSoon();
        noPartsAtAll();
        partsUpToTheLastCharacter();
        aFullTextThatEndsTooSoon();
        aFullTextWithAWrongLastCharacter();
        cellNumbersFrom00To95();
        valuesFrom00To99();
        valuesBeginAtCell0();
        valuesGoUpToCell95();
        noDigitsBehindCell95();
        ownersFrom0To3();
        ownersFromThenOn();
        channelsFrom0To2();
        headsFrom00To95();
        eachChannelAtMostOnce();
        noBlanks();
        everyCodeAtEveryPlace();
        theFirstOfSeveralWrongCharacters();
        textsThatEndTooSoon();
        errorPositionChangesNothing();
        loadCountsNoneToThreeChannels();
        loadIsAheadOfTheFirstTick();
        loadForgetsAllRememberedStates();
        loadEmptiesBothSlots();
        loadKeepsTheText();
        loadOfNoEngine();
        expect.finish();
    }

    private static void checkText(String text, int due) {
        OrderChains x = Engines.typed(text);
        expect.that("errorPosition of \"" + text + "\"", x.errorPosition(), due);
        if (due == NONE) {
            x.load();
        } else {
            expect.fails("load of \"" + text + "\"", Engines.STATE, () -> x.load());
        }
    }

    /** "c: character code, 0 to 255". */
    private static void codesFrom0To255() {
        OrderChains low = new OrderChains();
        for (int c = 0; c < LIMIT; c++) {
            expect.that("append(" + c + ")", low.append(c), c + 1);
        }
        OrderChains high = new OrderChains();
        for (int c = LIMIT; c <= 255; c++) {
            expect.that("append(" + c + ")", high.append(c), c - LIMIT + 1);
        }
        int[] wrong = {-1, 256, -2, 257, Integer.MIN_VALUE, Integer.MAX_VALUE};
        for (int c : wrong) {
            expect.fails("append(" + c + ")", Engines.ARGUMENT, () -> high.append(c));
        }
    }

    /** "IllegalStateException if the text already has 140 characters". */
    private static void atMost140Characters() {
        OrderChains x = new OrderChains();
        for (int length = 1; length <= LIMIT; length++) {
            expect.that("append number " + length, x.append('0'), length);
        }
        expect.fails("append number 141", Engines.STATE, () -> x.append('0'));
        expect.fails("append number 141 again", Engines.STATE, () -> x.append(255));
        expect.that("the text has 140 characters still", x.clearText(), LIMIT);
        expect.that("append behind clearText", x.append('0'), 1);
    }

    /** "Returns the previous length of the text." */
    private static void clearTextOfNoTextAndOfAFullOne() {
        OrderChains x = new OrderChains();
        expect.that("clearText of no text", x.clearText(), 0);
        expect.that("append", x.append('E'), 1);
        expect.that("clearText of one character", x.clearText(), 1);
        expect.that("clearText again", x.clearText(), 0);
        Engines.type(x, "E".repeat(LIMIT));
        expect.that("clearText of a full text", x.clearText(), LIMIT);
        expect.that("errorPosition of the text that was emptied", x.errorPosition(), 0);
    }

    /** "if the text ends too soon, it is the length of the text" */
    private static void theEmptyTextEndsTooSoon() {
        OrderChains x = new OrderChains();
        expect.that("errorPosition of a new object", x.errorPosition(), 0);
        expect.fails("load of a new object", Engines.STATE, () -> x.load());
    }

    /** "An engine is the letter E, and then any number of parts": none, too. */
    private static void noPartsAtAll() {
        OrderChains x = Engines.typed("E");
        expect.that("errorPosition of E", x.errorPosition(), NONE);
        expect.that("load of E", x.load(), 0);
        expect.same("the engine E", Engines.everything(x), Engines.everything(new OrderChains()));
    }

    /** The same: as many as the text holds. */
    private static void partsUpToTheLastCharacter() {
        OrderChains x = Engines.typed("E@00" + "12".repeat(64) + "s295" + "o399");
        expect.that("errorPosition of a full text", x.errorPosition(), NONE);
        expect.that("load of a full text", x.load(), 1);
        expect.that("the last value's cell", x.cell(64, 0), 99);
        expect.that("its owner", x.cell(64, 1), 3);
        expect.that("the cell behind it", x.cell(65, 0), 0);
        expect.that("the channel", x.channel(2, 1), 95);
        expect.that("the full text is kept", x.clearText(), LIMIT);
    }

    /** "if the text ends too soon, it is the length of the text": 140 for a full one. */
    private static void aFullTextThatEndsTooSoon() {
        checkText("E" + "12".repeat(69) + "3", LIMIT);
        checkText("E@95" + "o1".repeat(66) + "s0" + "12", NONE);
        checkText("E@95" + "o1".repeat(67) + "s0", LIMIT);
    }

    /** "the index of the first character that these rules do not allow at its place": 139 at most. */
    private static void aFullTextWithAWrongLastCharacter() {
        checkText("E" + "12".repeat(69) + "E", LIMIT - 1);
        checkText("E@95" + "o1".repeat(67) + "o4", LIMIT - 1);
    }

    /** "@" and two digits from 00 to 95: "the cell with this number is the next one". */
    private static void cellNumbersFrom00To95() {
        for (int c = 0; c <= 99; c++) {
            String text = "E@" + Engines.twoDigits(c);
            checkText(text, c <= 95 ? NONE : 3);
            if (c <= 95) {
                OrderChains x = Engines.loaded(text + "07");
                expect.that("value of the cell of " + text, x.cell(c, 0), 7);
                expect.that("no other cell of " + text, x.about(5), 7);
            }
        }
    }

    /** "two digits (00 to 99): the value of the next cell". */
    private static void valuesFrom00To99() {
        for (int v = 0; v <= 99; v++) {
            OrderChains x = Engines.loaded("E" + Engines.twoDigits(v));
            expect.that("value " + v, x.cell(0, 0), v);
        }
    }

    /** "the cell with this number is the next one (cell 0 at first)". */
    private static void valuesBeginAtCell0() {
        OrderChains x = Engines.loaded("E1122");
        expect.cells(x, 0, 11, 22, 0);
        OrderChains y = Engines.typed("E@404142");
        y.load();
        Engines.type(y, "E11");
        y.load();
        expect.that("at first means for each text", y.cell(0, 0), 11);
    }

    /** "then the cell behind it is the next one", up to the last cell. */
    private static void valuesGoUpToCell95() {
        String text = "E@30" + "17".repeat(66);
        OrderChains x = Engines.loaded(text);
        expect.that("the cell before", x.cell(29, 0), 0);
        for (int c = 30; c < 96; c++) {
            expect.that("value of " + c, x.cell(c, 0), 17);
        }
        checkText(text + "1", 136);
        checkText(text + "@00", NONE);
    }

    /** "no such digits are allowed behind cell 95". */
    private static void noDigitsBehindCell95() {
        checkText("E@9411", NONE);
        checkText("E@941122", NONE);
        checkText("E@94112233", 8);
        checkText("E@9511", NONE);
        for (int i = 0; i < DIGITS.length(); i++) {
            checkText("E@9511" + DIGITS.charAt(i), 6);
        }
        checkText("E@9511o3", NONE);
        checkText("E@9511o30", 8);
        checkText("E@9511s000", NONE);
        checkText("E@9511s0000", 10);
        checkText("E@9511@9522", NONE);
        checkText("E@9511@95220", 11);
        OrderChains x = Engines.loaded("E@9522@9511@0033");
        expect.that("cell 95 told twice", x.cell(95, 0), 11);
        expect.that("cell 0 behind cell 95", x.cell(0, 0), 33);
    }

    /** "o" and a digit from 0 to 3. */
    private static void ownersFrom0To3() {
        for (int owner = 0; owner <= 9; owner++) {
            checkText("Eo" + owner, owner <= 3 ? NONE : 2);
        }
        for (int owner = 0; owner <= 3; owner++) {
            OrderChains x = Engines.loaded("Eo" + owner + "00");
            expect.that("owner " + owner, x.cell(0, 1), owner);
        }
    }

    /** "the owner that the cells get whose values are told from then on (0 at first)". */
    private static void ownersFromThenOn() {
        OrderChains x = Engines.loaded("E10o211o312@9013o014o1");
        int[][] due = {{0, 0}, {1, 2}, {2, 3}, {3, 0}, {89, 0}, {90, 3}, {91, 0}, {92, 0}};
        for (int[] row : due) {
            expect.that("owner of " + row[0], x.cell(row[0], 1), row[1]);
        }
        expect.that("cells with an owner", x.about(9), 3);
        expect.that("a cell told again gets the owner of then", Engines.loaded("Eo310o2@0011").cell(0, 1), 2);
        OrderChains again = Engines.loaded("Eo310");
        Engines.type(again, "E10");
        again.load();
        expect.that("0 at first means for each text", again.cell(0, 1), 0);
    }

    /** "s", a digit from 0 to 2. */
    private static void channelsFrom0To2() {
        for (int h = 0; h <= 9; h++) {
            String text = "Es" + h + "07";
            checkText(text, h <= 2 ? NONE : 2);
            if (h <= 2) {
                OrderChains x = Engines.loaded(text);
                for (int k = 0; k <= 2; k++) {
                    expect.that(text + ": channel " + k, x.channel(k, 0), k == h ? 1 : 0);
                    expect.that(text + ": head of " + k, x.channel(k, 1), k == h ? 7 : 0);
                }
            }
        }
    }

    /** "and two digits from 00 to 95: this channel starts with the head there". */
    private static void headsFrom00To95() {
        for (int a = 0; a <= 99; a++) {
            String text = "Es1" + Engines.twoDigits(a);
            checkText(text, a <= 95 ? NONE : 4);
            if (a <= 95) {
                expect.that("head of " + text, Engines.loaded(text).channel(1, 1), a);
            }
        }
    }

    /** "each channel at most once". */
    private static void eachChannelAtMostOnce() {
        for (int h = 0; h <= 2; h++) {
            for (int k = 0; k <= 2; k++) {
                checkText("Es" + h + "00s" + k + "00", h == k ? 6 : NONE);
                int rest = 3 - h - k;
                if (h != k) {
                    String all = "Es" + h + "00s" + k + "00s" + rest + "00";
                    checkText(all, NONE);
                    checkText(all + "12s" + h + "00", 16);
                    checkText(all + "12s" + k + "00", 16);
                    checkText(all + "12s" + rest + "00", 16);
                }
            }
        }
    }

    /** "There are no blanks." */
    private static void noBlanks() {
        String text = "E@0912o3s14599";
        for (int at = 0; at <= text.length(); at++) {
            checkText(text.substring(0, at) + " " + text.substring(at), at);
        }
    }

    /** "The error position is the index of the first character that these rules do not allow at its place". */
    private static void everyCodeAtEveryPlace() {
        checkCodes("", "E", NONE);
        checkCodes("E", "@os" + DIGITS, 2);
        checkCodes("E@", DIGITS, 3);
        checkCodes("E@0", DIGITS, NONE);
        checkCodes("E@8", DIGITS, NONE);
        checkCodes("E@9", "012345", NONE);
        checkCodes("E0", DIGITS, NONE);
        checkCodes("E9", DIGITS, NONE);
        checkCodes("Eo", "0123", NONE);
        checkCodes("Es", "012", 3);
        checkCodes("Es0", DIGITS, 4);
        checkCodes("Es00", DIGITS, NONE);
        checkCodes("Es08", DIGITS, NONE);
        checkCodes("Es09", "012345", NONE);
        checkCodes("Es000", "@os" + DIGITS, 6);
        checkCodes("Es000s", "12", 7);
        checkCodes("E@9500", "@os", 7);
    }

    /** Puts each of the 256 characters behind a start; those that are allowed there have an answer of their own. */
    private static void checkCodes(String start, String allowed, int ifAllowed) {
        for (int c = 0; c < 256; c++) {
            OrderChains x = Engines.typed(start);
            x.append(c);
            int due = allowed.indexOf(c) >= 0 ? ifAllowed : start.length();
            expect.that("errorPosition of \"" + start + "\" and the character " + c, x.errorPosition(), due);
        }
    }

    /** The same: the first one, whatever follows. */
    private static void theFirstOfSeveralWrongCharacters() {
        checkText("xE", 0);
        checkText("EE00", 1);
        checkText("E00o9@99", 4);
        checkText("E@99o9", 3);
        checkText("E00o1o9s3", 6);
    }

    /** "if the text ends too soon, it is the length of the text" */
    private static void textsThatEndTooSoon() {
        String text = "E@0912o3s14599";
        int[] ends = {1, 4, 6, 8, 12, 14};
        for (int length = 0; length <= text.length(); length++) {
            int due = length;
            for (int end : ends) {
                due = end == length ? NONE : due;
            }
            checkText(text.substring(0, length), due);
        }
    }

    /** "Checks the text.": neither an engine nor another text becomes the state. */
    private static void errorPositionChangesNothing() {
        String[] texts = {"E@50o17708s112s230", "E@50o17708s112s2305", "E"};
        for (String text : texts) {
            OrderChains x = Engines.typed(text);
            x.order(0, 3, 7, 60, 3);
            x.start(0, 0);
            x.run(2);
            x.errorPosition();
            OrderChains untouched = new OrderChains();
            untouched.order(0, 3, 7, 60, 3);
            untouched.start(0, 0);
            untouched.run(2);
            expect.same("the state behind errorPosition of " + text, Engines.everything(x),
                Engines.everything(untouched));
            expect.that("undo behind it", x.undo(), 2);
            expect.that("the text behind it", x.clearText(), text.length());
        }
    }

    /** "Returns the number of busy channels." */
    private static void loadCountsNoneToThreeChannels() {
        String[] texts = {"E00", "Es295", "Es295s000", "Es295s000s191"};
        for (int busy = 0; busy < texts.length; busy++) {
            expect.that("load of " + texts[busy], Engines.typed(texts[busy]).load(), busy);
        }
    }

    /** "Replaces everything by the engine of the text, ahead of the first tick." */
    private static void loadIsAheadOfTheFirstTick() {
        String text = "E030101020112@2004010202s000s120";
        OrderChains x = Engines.loaded(text);
        x.start(2, 93);
        x.run(8);
        x.own(0, 96, 3);
        x.poke(95, 9);
        x.later(95, 500);
        x.load();
        expect.same("an engine that is loaded again", Engines.everything(x), Engines.everything(Engines.loaded(text)));
        OrderChains y = Engines.loaded("Es000s120s240");
        y.run(1);
        y.later(0, 1);
        y.load();
        expect.that("the turns begin at channel 0 again", y.about(4), 0);
    }

    /** "Forgets all remembered states". */
    private static void loadForgetsAllRememberedStates() {
        OrderChains x = Engines.typed("E");
        for (int v = 1; v <= 14; v++) {
            x.poke(0, v);
        }
        x.load();
        expect.fails("undo behind load", Engines.STATE, () -> x.undo());
        x.poke(0, 50);
        expect.that("undo of an action behind load", x.undo(), 0);
        expect.that("the value that was loaded", x.cell(0, 0), 0);
    }

    /** "and empties both save slots." */
    private static void loadEmptiesBothSlots() {
        OrderChains x = Engines.typed("E");
        x.save(0);
        x.save(1);
        x.load();
        expect.fails("restore(0) behind load", Engines.STATE, () -> x.restore(0));
        expect.fails("restore(1) behind load", Engines.STATE, () -> x.restore(1));
    }

    /** "Keeps the text." */
    private static void loadKeepsTheText() {
        OrderChains x = Engines.typed("E42s0");
        expect.fails("load of a text that ends too soon", Engines.STATE, () -> x.load());
        x.append('0');
        x.append('7');
        expect.that("load of the text that goes on", x.load(), 1);
        expect.that("append behind load", x.append('1'), 8);
        expect.that("its error position", x.errorPosition(), 8);
        expect.that("clearText behind load", x.clearText(), 8);
        expect.that("clearText changes no cell", x.cell(0, 0), 42);
    }

    /** "IllegalStateException if the text is not an engine". */
    private static void loadOfNoEngine() {
        String[] texts = {"", "e", " E", "E ", "E1", "E@", "E@9", "E@96", "Eo", "Eo4", "Es", "Es3", "Es0", "Es00",
            "Es096", "Es000s000", "E@95001", "EE"};
        for (String text : texts) {
            OrderChains x = Engines.typed(text);
            expect.fails("load of \"" + text + "\"", Engines.STATE, () -> x.load());
        }
    }
}
