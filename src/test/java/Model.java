import java.util.ArrayList;
import java.util.HashMap;
import java.util.List;
import java.util.Map;
import java.util.TreeSet;

/** The document once more, slowly and in another way, for RandomRunsTest to compare with. */
final class Model {
    private static final int BAD = -1, STATE = -2, FULL = -3, NONE = -4;

    /** All that an IMAGE keeps. */
    private static final class Kept {
        int[][] light = new int[6][8], charge = new int[6][8], held = new int[6][8];
        int[] line = new int[8];
        long lost, read, came;

        Kept copy() {
            Kept k = new Kept();
            for (int r = 0; r < 6; r++) {
                k.light[r] = light[r].clone();
                k.charge[r] = charge[r].clone();
                k.held[r] = held[r].clone();
            }
            k.line = line.clone();
            k.lost = lost;
            k.read = read;
            k.came = came;
            return k;
        }
    }

    /** What a text tells beside LIGHT. */
    private static final class Told {
        int cap = 200, dark, drain, smear, gain = 1, by = 1, phases = 3;
        int[] hot = new int[48], trap = new int[48];
        List<Integer> round = new ArrayList<>();
    }

    private static final class Fault extends RuntimeException {
        final int what, place;

        Fault(int what, int place) {
            super("fault", null, false, false);
            this.what = what;
            this.place = place;
        }
    }

    private Kept k = new Kept();
    private Told told = new Told();
    private final Kept[] images = new Kept[2];
    private final Object[] sheets = new Object[4];
    private StringBuilder tape = new StringBuilder();
    private int fault, torn;

    // ---- the text

    int feed(long v) {
        if (tape.length() + 8 > 400) {
            return FULL;
        }
        for (int i = 7; i >= 0; i--) {
            tape.append((char) (v >>> 8 * i & 255));
        }
        return tape.length();
    }

    int end(int n) {
        int had = tape.length();
        if (n < 0 || n > had) {
            return BAD;
        }
        tape.setLength(n);
        return had;
    }

    private String source;
    private int at, start;
    private String token;

    /** "" is the end. */
    private String next() {
        while (at < source.length() && source.charAt(at) == ' ') {
            at++;
        }
        start = at;
        if (at == source.length()) {
            return token = "";
        }
        String rest = source.substring(at);
        String found = rest.startsWith(";") ? ";" : rest.replaceFirst("(?s)^([a-z]+|[0-9]+).*", "$1");
        if (!found.matches(";|[a-z]+|[0-9]{1,3}")) {
            throw new Fault(1, start);
        }
        at += found.length();
        return token = found;
    }

    private int number(int least, int most) {
        next();
        return checked(least, most);
    }

    private int checked(int least, int most) {
        if (!token.matches("[0-9]+")) {
            throw new Fault(2, start);
        }
        int n = Integer.parseInt(token);
        if (n < least || n > most) {
            throw new Fault(3, start);
        }
        return n;
    }

    int text() {
        source = tape.toString();
        tape = new StringBuilder();
        at = 0;
        Told t = new Told();
        Kept fresh = new Kept();
        TreeSet<String> names = new TreeSet<>();
        int rows = 0;
        int lines = 0;
        try {
            while (!next().isEmpty()) {
                String name = token;
                if (!name.matches("row|hot|trap|cap|dark|drain|smear|gain|phases|clock")) {
                    throw new Fault(2, start);
                }
                boolean many = name.matches("row|hot|trap");
                if (!names.add(name) && !many) {
                    throw new Fault(4, start);
                }
                if (name.equals("row")) {
                    if (++rows > 6) {
                        throw new Fault(5, start);
                    }
                    for (int c = 0; c < 8; c++) {
                        fresh.light[rows - 1][c] = number(0, 99);
                    }
                } else if (name.equals("hot") || name.equals("trap")) {
                    int[] parts = name.equals("hot") ? t.hot : t.trap;
                    int w = number(0, 47);
                    if (parts[w] > 0) {
                        throw new Fault(4, start);
                    }
                    parts[w] = number(1, name.equals("hot") ? 99 : 50);
                } else if (name.equals("cap")) {
                    t.cap = number(1, 999);
                } else if (name.equals("dark")) {
                    t.dark = number(0, 9);
                } else if (name.equals("drain")) {
                    t.drain = 1;
                } else if (name.equals("smear")) {
                    t.smear = number(0, 9);
                } else if (name.equals("gain")) {
                    t.gain = number(1, 9);
                    t.by = number(1, 99);
                } else if (name.equals("phases")) {
                    t.phases = number(3, 4);
                } else {
                    t.round.add(number(0, 15));
                    while (next().matches("[0-9]+")) {
                        int v = checked(0, 15);
                        if (t.round.size() == 12) {
                            throw new Fault(5, start);
                        }
                        t.round.add(v);
                    }
                }
                if (!(name.equals("clock") ? token : next()).equals(";")) {
                    throw new Fault(2, start);
                }
                lines++;
            }
            for (int v : t.round) {
                if (v > 7 && t.phases == 3) {
                    throw new Fault(6, source.length());
                }
            }
        } catch (Fault f) {
            fault = f.what;
            return -10 - f.place;
        }
        fault = 0;
        told = t;
        k = fresh;
        images[0] = null;
        images[1] = null;
        return lines;
    }

    int fault() {
        return fault;
    }

    int rule(int what) {
        int[] rules = {told.cap, told.dark, told.drain, told.smear, told.gain, told.by, told.phases};
        return what < 0 || what > 6 ? BAD : rules[what];
    }

    int well(int w, int what) {
        if (w < 0 || w > 47 || what < 0 || what > 4) {
            return BAD;
        }
        int r = w / 8;
        int c = w % 8;
        return new int[] {k.charge[r][c], k.light[r][c], told.hot[w], told.trap[w], k.held[r][c]}[what];
    }

    int light(int w, int v) {
        if (w < 0 || w > 47 || v < 0 || v > 99) {
            return BAD;
        }
        int was = k.light[w / 8][w % 8];
        k.light[w / 8][w % 8] = v;
        return was;
    }

    // ---- charge

    private static int sum(int[][] rows) {
        int s = 0;
        for (int[] row : rows) {
            s += sum(row);
        }
        return s;
    }

    private static int sum(int[] row) {
        int s = 0;
        for (int x : row) {
            s += x;
        }
        return s;
    }

    int expose(int t) {
        if (t < 1 || t > 999) {
            return BAD;
        }
        for (int w = 0; w < 48; w++) {
            int more = t * rate(w);
            k.charge[w / 8][w % 8] += more;
            k.came += more;
        }
        overrun(k);
        return sum(k.charge);
    }

    private int rate(int w) {
        return k.light[w / 8][w % 8] + told.hot[w] + told.dark;
    }

    /** Grain by grain. */
    private void overrun(Kept s) {
        for (int r = 0; r < 6; r++) {
            for (int c = 0; c < 8; c++) {
                List<Integer> order = new ArrayList<>();
                for (int far = 1; far < 6; far++) {
                    if (r - far >= 0) {
                        order.add(r - far);
                    }
                    if (r + far < 6) {
                        order.add(r + far);
                    }
                }
                while (s.charge[r][c] > told.cap) {
                    s.charge[r][c]--;
                    boolean placed = false;
                    if (told.drain == 0) {
                        for (int other : order) {
                            if (s.charge[other][c] < told.cap) {
                                s.charge[other][c]++;
                                placed = true;
                                break;
                            }
                        }
                    }
                    if (!placed) {
                        s.lost++;
                    }
                }
            }
        }
    }

    private void downOf(Kept s, boolean traps, int smear) {
        int[] lowest = s.charge[5];
        for (int r = 5; r > 0; r--) {
            s.charge[r] = s.charge[r - 1];
        }
        s.charge[0] = new int[8];
        for (int c = 0; c < 8; c++) {
            s.line[c] += lowest[c];
            while (s.line[c] > 2 * told.cap) {
                s.line[c]--;
                s.lost++;
            }
        }
        for (int w = 0; w < 48; w++) {
            int r = w / 8;
            int c = w % 8;
            if (traps && s.charge[r][c] == 0) {
                s.charge[r][c] = s.held[r][c];
                s.held[r][c] = 0;
            } else {
                while (traps && s.charge[r][c] > 0 && s.held[r][c] < told.trap[w]) {
                    s.charge[r][c]--;
                    s.held[r][c]++;
                }
            }
            s.charge[r][c] += smear * s.light[r][c];
            s.came += smear * s.light[r][c];
        }
        overrun(s);
    }

    int down() {
        downOf(k, true, told.smear);
        return sum(k.line);
    }

    private static int readOf(Kept s) {
        int got = s.line[7];
        System.arraycopy(s.line.clone(), 0, s.line, 1, 7);
        s.line[0] = 0;
        s.read += got;
        return got;
    }

    private int value(int got) {
        int v = got * told.gain / told.by;
        return v > 255 ? 255 : v;
    }

    int read() {
        return value(readOf(k));
    }

    int line(int c) {
        return c < 0 || c > 7 ? BAD : k.line[c];
    }

    long now(int what) {
        switch (what) {
            case 0: return sum(k.charge);
            case 1: return sum(k.line);
            case 2: return sum(k.held);
            case 3: return k.lost;
            case 4: return k.read;
            case 5:
                int n = 0;
                for (int w = 0; w < 48; w++) {
                    n += k.charge[w / 8][w % 8] == told.cap ? 1 : 0;
                }
                return n;
            case 6: return k.came;
            default: return BAD;
        }
    }

    int clear() {
        int had = sum(k.charge) + sum(k.line) + sum(k.held);
        Kept fresh = new Kept();
        fresh.light = k.light;
        k = fresh;
        return had;
    }

    // ---- the picture

    private List<List<Integer>> pictureOf(Kept s, int v, int h, boolean traps, int smear) {
        s.line = new int[8];
        List<List<Integer>> rows = new ArrayList<>();
        for (int through = 0; through < 6; through += v) {
            for (int i = 0; i < v; i++) {
                downOf(s, traps, smear);
            }
            List<Integer> row = new ArrayList<>();
            int got = 0;
            for (int i = 1; i <= 8; i++) {
                got += readOf(s);
                if (i % h == 0 || i == 8) {
                    row.add(value(got));
                    got = 0;
                }
            }
            rows.add(row);
        }
        return rows;
    }

    int picture(int v, int h, int row, int column) {
        if (v < 1 || v > 3 || h < 1 || h > 3) {
            return BAD;
        }
        List<List<Integer>> p = pictureOf(k.copy(), v, h, true, told.smear);
        if (row < 0 || row >= p.size() || column < 0 || column >= p.get(0).size()) {
            return BAD;
        }
        return p.get(row).get(column);
    }

    int shades(int v, int h, int what) {
        if (v < 1 || v > 3 || h < 1 || h > 3 || what < 0 || what > 3) {
            return BAD;
        }
        List<Integer> all = new ArrayList<>();
        for (List<Integer> row : pictureOf(k.copy(), v, h, true, told.smear)) {
            all.addAll(row);
        }
        switch (what) {
            case 0: return all.stream().mapToInt(x -> x).max().getAsInt();
            case 1: return all.stream().mapToInt(x -> x).min().getAsInt();
            case 2: return all.stream().mapToInt(x -> x).sum();
            default: return (int) all.stream().filter(x -> x == 255).count();
        }
    }

    int late(int c) {
        if (c < 0 || c > 7) {
            return BAD;
        }
        Kept s = k.copy();
        pictureOf(s, 1, 1, true, told.smear);
        downOf(s, true, told.smear);
        return s.line[c];
    }

    int smear(int w) {
        if (w < 0 || w > 47) {
            return BAD;
        }
        int s = 0;
        for (int r = w / 8 + 1; r < 6; r++) {
            s += k.light[r][w % 8] * told.smear;
        }
        return s;
    }

    int spoiled(int what) {
        if (what < 0 || what > 1) {
            return BAD;
        }
        List<List<Integer>> a = pictureOf(k.copy(), 1, 1, true, told.smear);
        List<List<Integer>> b = pictureOf(k.copy(), 1, 1, false, 0);
        int n = 0;
        int most = 0;
        for (int w = 0; w < 48; w++) {
            int d = Math.abs(a.get(w / 8).get(w % 8) - b.get(w / 8).get(w % 8));
            n += d != 0 ? 1 : 0;
            most = Math.max(most, d);
        }
        return what == 0 ? n : most;
    }

    // ---- how long

    int full(int w) {
        if (w < 0 || w > 47) {
            return BAD;
        }
        for (int t = 1; t <= 1000; t++) {
            if (rate(w) * t >= told.cap) {
                return t;
            }
        }
        return NONE;
    }

    private boolean noneAbove(int t) {
        for (int w = 0; w < 48; w++) {
            if (rate(w) * t > told.cap) {
                return false;
            }
        }
        return true;
    }

    int longest() {
        int t = 999;
        while (!noneAbove(t)) {
            t--;
        }
        return t;
    }

    int enough(int n) {
        if (n < 1 || n > 999) {
            return BAD;
        }
        for (int t = 1; t <= 999; t++) {
            boolean all = noneAbove(t);
            for (int w = 0; w < 48; w++) {
                all &= k.light[w / 8][w % 8] == 0 || rate(w) * t >= n;
            }
            if (all) {
                return t;
            }
        }
        return NONE;
    }

    long hots(int t, int n) {
        if (t < 1 || t > 999 || n < 1 || n > 9999) {
            return BAD;
        }
        long bits = 0;
        for (int w = 47; w >= 0; w--) {
            bits = bits * 2 + ((told.hot[w] + told.dark) * t >= n ? 1 : 0);
        }
        return bits;
    }

    int mended(int w) {
        if (w < 0 || w > 47) {
            return BAD;
        }
        int s = 0;
        int n = 0;
        for (int o = 0; o < 48; o++) {
            int far = Math.abs(o / 8 - w / 8) + Math.abs(o % 8 - w % 8);
            if (far == 1 && told.hot[o] == 0) {
                s += k.charge[o / 8][o % 8];
                n++;
            }
        }
        return n == 0 ? NONE : s / n;
    }

    // ---- gates

    private boolean noWord(int v) {
        return v < 0 || v >= 1 << told.phases;
    }

    int word(int v) {
        if (noWord(v)) {
            return BAD;
        }
        if (told.round.size() == 12) {
            return FULL;
        }
        told.round.add(v);
        return told.round.size();
    }

    int still() {
        int had = told.round.size();
        told.round.clear();
        return had;
    }

    int words(int i) {
        return i < 0 || i >= told.round.size() ? BAD : told.round.get(i);
    }

    private static final int LENGTH = 240, MIDDLE = 120;

    /** The REGIONS of a WORD on a long piece of the line, as {first GATE, last GATE}. */
    private List<int[]> regions(int word) {
        List<int[]> all = new ArrayList<>();
        int from = -1;
        for (int g = 0; g <= LENGTH; g++) {
            boolean high = g < LENGTH && (word >> g % told.phases & 1) == 1;
            if (high && from < 0) {
                from = g;
            }
            if (!high && from >= 0) {
                all.add(new int[] {from, g - 1});
                from = -1;
            }
        }
        return all;
    }

    private boolean good(int word) {
        if (word == (1 << told.phases) - 1) {
            return false;
        }
        int n = 0;
        for (int[] r : regions(word)) {
            n += r[0] >= MIDDLE && r[0] < MIDDLE + told.phases ? 1 : 0;
        }
        return n == 1;
    }

    private static boolean share(int[] a, int[] b) {
        return a[0] <= b[1] && b[0] <= a[1];
    }

    /** Where PACKETS (one each well, this one among them) go: {wrong} or {0, first, last}. */
    private int[] step(int[] packet, int next) {
        if (next == (1 << told.phases) - 1) {
            return new int[] {3};
        }
        List<int[]> mine = new ArrayList<>();
        for (int[] r : regions(next)) {
            if (share(r, packet)) {
                mine.add(r);
            }
        }
        if (mine.isEmpty()) {
            return new int[] {1};
        }
        if (mine.size() > 1) {
            return new int[] {2};
        }
        int[] r = mine.get(0);
        for (int by = -5; by <= 5; by++) {
            int[] other = {packet[0] + by * told.phases, packet[1] + by * told.phases};
            if (by != 0 && share(r, other)) {
                return new int[] {3};
            }
        }
        return new int[] {0, r[0], r[1]};
    }

    private int[] firstPacket(int word) {
        for (int[] r : regions(word)) {
            if (r[0] >= MIDDLE) {
                return r;
            }
        }
        throw new IllegalStateException();
    }

    int clock(int what) {
        if (what < 0 || what > 2) {
            return BAD;
        }
        if (told.round.isEmpty() || !good(told.round.get(0))) {
            return STATE;
        }
        int[] packet = firstPacket(told.round.get(0));
        int begin = packet[0];
        int n = told.round.size();
        for (int i = 1; i <= n; i++) {
            int[] s = step(packet, told.round.get(i % n));
            if (s[0] != 0) {
                return what == 0 ? i % n : what == 1 ? s[0] : NONE;
            }
            packet = new int[] {s[1], s[2]};
        }
        return what == 0 ? NONE : what == 1 ? 0 : 100 + (packet[0] - begin) / told.phases;
    }

    int goes(int a, int b) {
        if (noWord(a) || noWord(b)) {
            return BAD;
        }
        return good(a) ? step(firstPacket(a), b)[0] : STATE;
    }

    int fewest(int by) {
        if (by < -1 || by > 1) {
            return BAD;
        }
        for (int n = 1; ; n++) {
            for (int first = 0; first < 1 << told.phases; first++) {
                if (rounds(first, n, by) > 0) {
                    return n;
                }
            }
        }
    }

    long rounds(int first, int n, int d) {
        if (noWord(first) || n < 1 || n > 12 || d < -3 || d > 3) {
            return BAD;
        }
        if (!good(first)) {
            return 0;
        }
        int[] begin = firstPacket(first);
        memo.clear();
        return go(first, begin, n, begin[0] + d * told.phases);
    }

    private final Map<String, Long> memo = new HashMap<>();

    /** Rows of WORDS, so many steps to the last one of which brings first, that end at a GATE. */
    private long go(int first, int[] packet, int steps, int goal) {
        if (steps == 0) {
            return packet[0] == goal ? 1 : 0;
        }
        String key = packet[0] + "," + packet[1] + "," + steps;
        Long known = memo.get(key);
        if (known != null) {
            return known;
        }
        long sum = 0;
        for (int next = 0; next < 1 << told.phases; next++) {
            if (steps > 1 || next == first) {
                int[] s = step(packet, next);
                sum += s[0] != 0 ? 0 : go(first, new int[] {s[1], s[2]}, steps - 1, goal);
            }
        }
        memo.put(key, sum);
        return sum;
    }

    // ---- images, sheets

    int keep(int i) {
        if (i < 0 || i > 1) {
            return BAD;
        }
        int was = images[i] == null ? 0 : 1;
        images[i] = k.copy();
        return was;
    }

    int back(int i) {
        if (i < 0 || i > 1) {
            return BAD;
        }
        if (images[i] == null) {
            return STATE;
        }
        k = images[i].copy();
        return sum(k.charge);
    }

    /** Here the machine itself finds the FAULTS. */
    int sheet(int s, int lane, int n) {
        if (s < 0 || s > 3 || lane < 0 || lane > 2 || n > 40) {
            return BAD;
        }
        try {
            sheets[s] = lane == 0 ? new byte[n] : lane == 1 ? (Object) new short[n] : new int[n];
            return 1;
        } catch (NegativeArraySizeException e) {
            return -14;
        }
    }

    int lay(int s, int i, int v) {
        if (s < 0 || s > 3) {
            return BAD;
        }
        try {
            if (sheets[s] instanceof byte[]) {
                ((byte[]) sheets[s])[i] = (byte) v;
            } else if (sheets[s] instanceof short[]) {
                ((short[]) sheets[s])[i] = (short) v;
            } else {
                ((int[]) sheets[s])[i] = v;
            }
            return 1;
        } catch (NullPointerException e) {
            return -11;
        } catch (ArrayIndexOutOfBoundsException e) {
            return -12;
        }
    }

    private int cell(int s, int lane, int i) {
        return lane == 0 ? ((byte[]) sheets[s])[i] : lane == 1 ? ((short[]) sheets[s])[i] : ((int[]) sheets[s])[i];
    }

    int reads(int s, int lane, int f, int n) {
        if (s < 0 || s > 3 || lane < 0 || lane > 2 || n < 0 || n > 20) {
            return BAD;
        }
        Kept ahead = k.copy();
        int found = 0;
        int came = 0;
        try {
            for (int i = 0; i < n; i++) {
                int w = cell(s, lane, f + 2 * i);
                int v = cell(s, lane, f + 2 * i + 1);
                if (light(w, v) == BAD) {
                    k = ahead;
                    return -20 - i;
                }
                came++;
            }
        } catch (NullPointerException e) {
            found = 1;
        } catch (ArrayIndexOutOfBoundsException e) {
            found = 2;
        } catch (ClassCastException e) {
            found = 3;
        }
        torn = found;
        return came;
    }

    int torn() {
        return torn;
    }

    int count(int what) {
        int hot = 0;
        int trap = 0;
        int lit = 0;
        for (int w = 0; w < 48; w++) {
            hot += told.hot[w] > 0 ? 1 : 0;
            trap += told.trap[w] > 0 ? 1 : 0;
            lit += k.light[w / 8][w % 8] > 0 ? 1 : 0;
        }
        switch (what) {
            case 0: return hot;
            case 1: return trap;
            case 2: return told.round.size();
            case 3: return (images[0] == null ? 0 : 1) + (images[1] == null ? 0 : 1);
            case 4: return tape.length();
            case 5: return sheets[0] == null ? NONE : java.lang.reflect.Array.getLength(sheets[0]);
            case 6: return lit;
            default: return BAD;
        }
    }
}
