/** What several tests do to engines. */
final class Engines {
    static final Class<IndexOutOfBoundsException> INDEX = IndexOutOfBoundsException.class;
    static final Class<IllegalArgumentException> ARGUMENT = IllegalArgumentException.class;
    static final Class<IllegalStateException> STATE = IllegalStateException.class;

    static final int[] NOT_CELLS = {-1, 96, 97, Integer.MIN_VALUE, Integer.MAX_VALUE};
    static final int[] NOT_CHANNELS = {-1, 3, 4, Integer.MIN_VALUE, Integer.MAX_VALUE};
    static final int[] NOT_VALUES = {-1, 100, Integer.MIN_VALUE, Integer.MAX_VALUE};

    private Engines() {
    }

    static void type(OrderChains x, String text) {
        x.clearText();
        for (int i = 0; i < text.length(); i++) {
            x.append(text.charAt(i));
        }
    }

    static OrderChains loaded(String text) {
        OrderChains x = new OrderChains();
        type(x, text);
        x.load();
        return x;
    }

    /** Every number that can be asked for without a change, in one line. */
    static String everything(OrderChains x) {
        StringBuilder all = new StringBuilder();
        for (int what = 0; what < 10; what++) {
            all.append(x.about(what)).append(' ');
        }
        for (int h = 0; h < 3; h++) {
            for (int what = 0; what < 8; what++) {
                all.append(x.channel(h, what)).append(' ');
            }
        }
        for (int c = 0; c < 96; c++) {
            for (int what = 0; what < 4; what++) {
                all.append(x.cell(c, what)).append(' ');
            }
        }
        return all.toString();
    }
}
