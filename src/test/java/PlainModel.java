import java.util.ArrayDeque;
import java.util.ArrayList;
import java.util.Deque;
import java.util.HashSet;
import java.util.List;
import java.util.Set;
import java.util.regex.Matcher;
import java.util.regex.Pattern;

/** The document once more, written without a care for speed or space, to compare answers with. */
final class PlainModel implements Machine {
    private static final int NONE = -9;

    private static final class Chan {
        String is = "idle";
        int head = 0;
        int cause = 0;
        int place = 0;
        List<Integer> hand = null;
        int units = 0;
        int orders = 0;
        int written = 0;

        Chan copy() {
            Chan c = new Chan();
            c.is = is;
            c.head = head;
            c.cause = cause;
            c.place = place;
            c.hand = hand;
            c.units = units;
            c.orders = orders;
            c.written = written;
            return c;
        }

        int number() {
            return List.of("idle", "busy", "done", "faulty").indexOf(is);
        }

        void turn(String what) {
            is = what;
            hand = null;
            units = 0;
        }
    }

    private record Write(int channel, int cell, boolean edit) {
    }

    private static final class World {
        int[] value = new int[96];
        int[] owner = new int[96];
        boolean[] read = new boolean[96];
        Integer[] writer = new Integer[96];
        Chan[] chans = {new Chan(), new Chan(), new Chan()};
        Integer last = null;
        int ticks = 0;
        List<Write> log = new ArrayList<>();

        World copy() {
            World w = new World();
            w.value = value.clone();
            w.owner = owner.clone();
            w.read = read.clone();
            w.writer = writer.clone();
            w.chans = new Chan[] {chans[0].copy(), chans[1].copy(), chans[2].copy()};
            w.last = last;
            w.ticks = ticks;
            w.log = new ArrayList<>(log);
            return w;
        }

        int next() {
            int first = last == null ? 0 : last + 1;
            for (int h = first; h < first + 3; h++) {
                if (chans[h % 3].is.equals("busy")) {
                    return h % 3;
                }
            }
            return NONE;
        }

        int ticks(int n) {
            int before = ticks;
            while (n > 0 && next() != NONE) {
                tick();
                n--;
            }
            return ticks - before;
        }

        void tick() {
            int h = next();
            Chan c = chans[h];
            last = h;
            ticks++;
            if (c.hand == null) {
                read(c);
            } else {
                work(h, c);
            }
        }

        void fault(Chan c, int cause) {
            c.turn("faulty");
            c.cause = cause;
        }

        void read(Chan c) {
            if (c.head > 90) {
                fault(c, 1);
                return;
            }
            List<Integer> six = new ArrayList<>();
            for (int k = 0; k < 6; k++) {
                read[c.head + k] = true;
                six.add(value[c.head + k]);
            }
            c.orders++;
            int kind = six.get(0);
            if (kind == 0) {
                c.turn("done");
            } else if (kind > 6) {
                fault(c, 2);
            } else if (kind < 6 && six.get(3) == 0) {
                c.head = six.get(5);
            } else {
                c.hand = six;
                c.place = c.head;
                c.units = 0;
            }
        }

        void work(int h, Chan c) {
            int kind = c.hand.get(0);
            int from = c.hand.get(1);
            int to = c.hand.get(2);
            int count = c.hand.get(3);
            int stride = c.hand.get(4);
            int next = c.hand.get(5);
            int i = c.units;
            List<int[]> writes = new ArrayList<>();
            List<Integer> cells = new ArrayList<>();
            int goTo = next;
            if (kind == 1 || kind == 2) {
                int k = kind == 1 ? i : count - 1 - i;
                cells.add(from + k);
                cells.add(to + k);
                writes.add(new int[] {to + k, at(from + k)});
            } else if (kind == 3) {
                cells.add(to + i * stride);
                writes.add(new int[] {to + i * stride, from});
            } else if (kind == 4) {
                cells.add(to + i * stride);
                writes.add(new int[] {to + i * stride, (at(to + i * stride) + from) % 100});
            } else if (kind == 5) {
                cells.add(from + i);
                cells.add(to + i);
                if (from != to) {
                    writes.add(new int[] {from + i, at(to + i)});
                    writes.add(new int[] {to + i, at(from + i)});
                }
            } else {
                cells.add(from);
                goTo = at(from) == to ? next : c.place + 6;
            }
            if (cells.stream().anyMatch(cell -> cell > 95)) {
                fault(c, 3);
                return;
            }
            if (writes.stream().anyMatch(w -> owner[w[0]] != 0 && owner[w[0]] != h + 1)) {
                fault(c, 4);
                return;
            }
            for (int[] w : writes) {
                log.add(new Write(h, w[0], read[w[0]]));
                value[w[0]] = w[1];
                writer[w[0]] = h;
                c.written++;
            }
            c.units++;
            if (kind == 6 || c.units == count) {
                c.hand = null;
                c.units = 0;
                c.head = goTo;
            }
        }

        int at(int cell) {
            return cell > 95 ? 0 : value[cell];
        }

        int sum() {
            int sum = 0;
            for (int v : value) {
                sum += v;
            }
            return sum;
        }

        int count(String what) {
            int found = 0;
            for (Chan c : chans) {
                found += c.is.equals(what) ? 1 : 0;
            }
            return found;
        }

        int edits() {
            return (int) log.stream().filter(Write::edit).count();
        }

        int begin(int h, int a) {
            int was = chans[h].number();
            chans[h].turn("busy");
            chans[h].head = a;
            return was;
        }

        int ownCells(int c, int n, int owner) {
            int changed = 0;
            for (int k = c; k <= Math.min(95, c + n - 1); k++) {
                changed += this.owner[k] == owner ? 0 : 1;
                this.owner[k] = owner;
            }
            return changed;
        }
    }

    private static final Pattern ENGINE = Pattern.compile("E(@[0-9]{2}|[0-9]{2}|o[0-3]|s[0-2][0-9]{2})*", Pattern.DOTALL);
    private static final Pattern PART = Pattern.compile("@[0-9]{2}|[0-9]{2}|o[0-3]|s[0-2][0-9]{2}");

    private String text = "";
    private World world = new World();
    private final Deque<World> past = new ArrayDeque<>();
    private final World[] slots = new World[2];

    /** The engine of a text; null if it is none. */
    private static World engine(String text) {
        if (!ENGINE.matcher(text).matches()) {
            return null;
        }
        World w = new World();
        int cell = 0;
        int owner = 0;
        Matcher parts = PART.matcher(text.substring(1));
        while (parts.find()) {
            String part = parts.group();
            char sign = part.charAt(0);
            if (sign == '@') {
                cell = Integer.parseInt(part.substring(1));
                if (cell > 95) {
                    return null;
                }
            } else if (sign == 'o') {
                owner = part.charAt(1) - '0';
            } else if (sign == 's') {
                int h = part.charAt(1) - '0';
                int head = Integer.parseInt(part.substring(2));
                if (head > 95 || !w.chans[h].is.equals("idle")) {
                    return null;
                }
                w.begin(h, head);
            } else {
                if (cell > 95) {
                    return null;
                }
                w.value[cell] = Integer.parseInt(part);
                w.owner[cell] = owner;
                cell++;
            }
        }
        return w;
    }

    /** Whether an engine can begin so; a sign "s" is allowed wherever a part may begin. */
    private static boolean canBegin(String start) {
        if (start.endsWith("s") && engine(start.substring(0, start.length() - 1)) != null) {
            return true;
        }
        for (String rest : new String[] {"", "0", "00", "000", "100", "200", "E"}) {
            if (engine(start + rest) != null) {
                return true;
            }
        }
        return false;
    }

    private void act() {
        past.addLast(world.copy());
        if (past.size() > 14) {
            past.removeFirst();
        }
    }

    private static void index(boolean fine) {
        if (!fine) {
            throw new IndexOutOfBoundsException();
        }
    }

    private static void argument(boolean fine) {
        if (!fine) {
            throw new IllegalArgumentException();
        }
    }

    private static void state(boolean fine) {
        if (!fine) {
            throw new IllegalStateException();
        }
    }

    private static boolean in(long v, long low, long high) {
        return low <= v && v <= high;
    }

    public int append(int c) {
        argument(in(c, 0, 255));
        state(text.length() < 140);
        text += (char) c;
        return text.length();
    }

    public int clearText() {
        int length = text.length();
        text = "";
        return length;
    }

    public int errorPosition() {
        if (engine(text) != null) {
            return NONE;
        }
        for (int k = 1; k <= text.length(); k++) {
            if (!canBegin(text.substring(0, k))) {
                return k - 1;
            }
        }
        return text.length();
    }

    public int load() {
        World loaded = engine(text);
        state(loaded != null);
        world = loaded;
        past.clear();
        slots[0] = null;
        slots[1] = null;
        return world.count("busy");
    }

    public int about(int what) {
        argument(in(what, 0, 9));
        int read = 0;
        int owned = 0;
        for (int c = 0; c < 96; c++) {
            read += world.read[c] ? 1 : 0;
            owned += world.owner[c] > 0 ? 1 : 0;
        }
        int[] all = {world.ticks, world.count("busy"), world.count("done"), world.count("faulty"), world.next(),
            world.sum(), world.edits(), world.log.size(), read, owned};
        return all[what];
    }

    public int cell(int c, int what) {
        index(in(c, 0, 95));
        argument(in(what, 0, 3));
        int writer = world.writer[c] == null ? NONE : world.writer[c];
        int[] all = {world.value[c], world.owner[c], world.read[c] ? 1 : 0, writer};
        return all[what];
    }

    public int channel(int h, int what) {
        index(in(h, 0, 2));
        argument(in(what, 0, 7));
        Chan c = world.chans[h];
        boolean inHand = c.hand != null;
        int[] all = {c.number(), c.head, c.is.equals("faulty") ? c.cause : NONE, inHand ? c.place : NONE,
            inHand ? c.hand.get(0) : NONE, c.units, c.orders, c.written};
        return all[what];
    }

    public int chain(int a, int what) {
        index(in(a, 0, 95));
        argument(in(what, 0, 1));
        Set<Integer> read = new HashSet<>();
        int at = a;
        int end;
        while (true) {
            if (at > 90) {
                end = 2;
                break;
            }
            if (!read.add(at)) {
                end = 3;
                break;
            }
            if (world.value[at] == 0 || world.value[at] > 6) {
                end = world.value[at] == 0 ? 0 : 1;
                break;
            }
            at = world.value[at + 5];
        }
        return what == 0 ? read.size() : end;
    }

    public int poke(int c, int v) {
        index(in(c, 0, 95));
        argument(in(v, 0, 99));
        act();
        int old = world.value[c];
        world.value[c] = v;
        return old;
    }

    public int order(int a, int kind, int from, int to, int count) {
        index(in(a, 0, 95));
        argument(a <= 90 && in(kind, 0, 99) && in(from, 0, 99) && in(to, 0, 99) && in(count, 0, 99));
        act();
        int old = world.value[a];
        int[] six = {kind, from, to, count, 1, a + 6};
        for (int k = 0; k < 6; k++) {
            world.value[a + k] = six[k];
        }
        return old;
    }

    public int own(int c, int n, int owner) {
        index(in(c, 0, 95));
        argument(in(n, 1, 96) && in(owner, 0, 3));
        act();
        return world.ownCells(c, n, owner);
    }

    public int start(int h, int a) {
        index(in(h, 0, 2) && in(a, 0, 95));
        act();
        return world.begin(h, a);
    }

    public int stop(int h) {
        index(in(h, 0, 2));
        Chan c = world.chans[h];
        state(c.is.equals("busy"));
        act();
        int left = c.hand == null || c.hand.get(0) == 6 ? 0 : c.hand.get(3) - c.units;
        c.turn("idle");
        return left;
    }

    public int run(int n) {
        argument(in(n, 1, 99));
        state(world.next() != NONE);
        act();
        return world.ticks(n);
    }

    public int undo() {
        state(!past.isEmpty());
        world = past.removeLast();
        return past.size();
    }

    public int ends(int h) {
        index(in(h, 0, 2));
        World w = world.copy();
        int behind = 0;
        while (w.chans[h].is.equals("busy")) {
            w.tick();
            behind++;
            if (behind > 500) {
                return NONE;
            }
        }
        return behind;
    }

    public int endOf(int h) {
        index(in(h, 0, 2));
        World w = world.copy();
        w.ticks(500);
        Chan c = w.chans[h];
        return c.is.equals("faulty") ? c.cause : c.is.equals("done") ? 0 : NONE;
    }

    public int later(int c, int n) {
        index(in(c, 0, 95));
        argument(in(n, 0, 500));
        World w = world.copy();
        w.ticks(n);
        return w.value[c];
    }

    public int contested(int n) {
        argument(in(n, 0, 500));
        World w = world.copy();
        w.ticks(n);
        List<Write> next = w.log.subList(world.log.size(), w.log.size());
        int found = 0;
        for (int c = 0; c < 96; c++) {
            int cell = c;
            long channels = next.stream().filter(e -> e.cell() == cell).map(Write::channel).distinct().count();
            found += channels >= 2 ? 1 : 0;
        }
        return found;
    }

    public int firstEdit() {
        World w = world.copy();
        w.ticks(500);
        for (Write e : w.log.subList(world.log.size(), w.log.size())) {
            if (e.edit()) {
                return 100 * e.channel() + e.cell();
            }
        }
        return NONE;
    }

    public int alone(int h) {
        index(in(h, 0, 2));
        World w = world.copy();
        w.chans[(h + 1) % 3].turn("idle");
        w.chans[(h + 2) % 3].turn("idle");
        w.ticks(500);
        return w.log.size() - world.log.size();
    }

    public int runScript(int n, long script) {
        argument(in(n, 1, 3));
        argument(script >= 0 && Long.toString(script).length() <= 5 * n);
        String digits = "0".repeat(5 * n - Long.toString(script).length()) + script;
        World w = world.copy();
        for (int k = 0; k < n; k++) {
            if (!command(w, digits.substring(5 * k, 5 * k + 5))) {
                return k;
            }
        }
        return NONE;
    }

    private static boolean command(World w, String g) {
        int h = g.charAt(1) - '0';
        int cc = Integer.parseInt(g.substring(1, 3));
        int head = Integer.parseInt(g.substring(2, 4));
        int xy = Integer.parseInt(g.substring(3));
        int end = g.charAt(4) - '0';
        if (g.matches("1....")) {
            if (cc <= 95) {
                w.value[cc] = xy;
            }
            return cc <= 95;
        }
        if (g.matches("200..")) {
            return xy >= 1 && w.ticks(xy) > 0;
        }
        if (g.matches("3[012]..0")) {
            if (head <= 95) {
                w.begin(h, head);
            }
            return head <= 95;
        }
        if (g.matches("4[012]000")) {
            boolean busy = w.chans[h].is.equals("busy");
            if (busy) {
                w.chans[h].turn("idle");
            }
            return busy;
        }
        if (g.matches("5..[0123][1-9]")) {
            if (cc <= 95) {
                w.ownCells(cc, end, g.charAt(3) - '0');
            }
            return cc <= 95;
        }
        if (g.matches("6....")) {
            return cc <= 95 && w.value[cc] == xy;
        }
        if (g.matches("7[012]00[0123]")) {
            return w.chans[h].number() == end;
        }
        if (g.matches("8[012]0..")) {
            return w.chans[h].written >= xy;
        }
        return g.matches("900..") && w.edits() <= xy;
    }

    public int simulate(long seed, int m) {
        argument(in(m, 1, 50));
        World w = world.copy();
        long x = seed;
        for (int k = 0; k < m; k++) {
            x = x * 6364136223846793005L + 1442695040888963407L;
            int r = (int) (x >>> 33);
            w.value[r % 96] = r / 128 % 100;
            if (r / 16384 % 4 == 0) {
                w.begin(r / 65536 % 3, r / 262144 % 91);
            }
            w.ticks(8);
        }
        return 10000 * w.count("faulty") + w.sum();
    }

    public int save(int slot) {
        index(in(slot, 0, 1));
        slots[slot] = world.copy();
        return world.ticks;
    }

    public int restore(int slot) {
        index(in(slot, 0, 1));
        state(slots[slot] != null);
        world = slots[slot].copy();
        past.clear();
        return world.ticks;
    }
}
