/** What several tests do to engines. */
final class Engines {
    static final Class<IndexOutOfBoundsException> INDEX = IndexOutOfBoundsException.class;
    static final Class<IllegalArgumentException> ARGUMENT = IllegalArgumentException.class;
    static final Class<IllegalStateException> STATE = IllegalStateException.class;

    static final int[] NOT_CELLS = {-1, 96, 97, Integer.MIN_VALUE, Integer.MAX_VALUE};
    static final int[] NOT_CHANNELS = {-1, 3, 4, Integer.MIN_VALUE, Integer.MAX_VALUE};
    static final int[] NOT_VALUES = {-1, 100, Integer.MIN_VALUE, Integer.MAX_VALUE};
    static final int[] NOT_SLOTS = {-1, 2, 3, Integer.MIN_VALUE, Integer.MAX_VALUE};

    /** An object is used for at most this many calls; what later ones answer is free. */
    static final int MOST_CALLS = 512;
    /** The calls that everything() makes. */
    static final int CALLS_FOR_EVERYTHING = 10 + 3 * 8 + 96 * 4;

    private Engines() {
    }

    static void type(OrderChains x, String text) {
        x.clearText();
        for (int i = 0; i < text.length(); i++) {
            x.append(text.charAt(i));
        }
    }

    static OrderChains typed(String text) {
        OrderChains x = new OrderChains();
        type(x, text);
        return x;
    }

    static OrderChains loaded(String text) {
        OrderChains x = typed(text);
        x.load();
        return x;
    }

    /** Pokes values into the cells from a on. */
    static void lay(OrderChains x, int a, int... values) {
        for (int i = 0; i < values.length; i++) {
            x.poke(a + i, values[i]);
        }
    }

    /** A new object with an order (kind, from, to, count, stride, next) at a, where the channel h begins. */
    static OrderChains ordered(int h, int a, int... order) {
        OrderChains x = new OrderChains();
        lay(x, a, order);
        x.start(h, a);
        return x;
    }

    static String twoDigits(int n) {
        return n < 10 ? "0" + n : "" + n;
    }

    /** The numbers of the whole and of the channels, and the values, in one line: 130 calls. */
    static String brief(OrderChains x) {
        StringBuilder all = new StringBuilder();
        tellNumbers(x, all);
        for (int c = 0; c < 96; c++) {
            all.append(x.cell(c, 0)).append(' ');
        }
        return all.toString();
    }

    /** Every number that can be asked for without a change, in one line: an object has calls for it only once. */
    static String everything(OrderChains x) {
        StringBuilder all = new StringBuilder();
        tellNumbers(x, all);
        for (int c = 0; c < 96; c++) {
            for (int what = 0; what < 4; what++) {
                all.append(x.cell(c, what)).append(' ');
            }
        }
        return all.toString();
    }

    private static void tellNumbers(OrderChains x, StringBuilder all) {
        for (int what = 0; what < 10; what++) {
            all.append(x.about(what)).append(' ');
        }
        for (int h = 0; h < 3; h++) {
            for (int what = 0; what < 8; what++) {
                all.append(x.channel(h, what)).append(' ');
            }
        }
    }
}
