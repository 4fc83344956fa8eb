import java.util.Arrays;

/** A sheet of wells that light fills and that is handed on in buckets, as ../shared/DOC.md tells. */
public final class BucketSheet {
    public static final int BAD = -1, STATE = -2, FULL = -3, NONE = -4;

    private static final int ROWS = 6, COLUMNS = 8, WELLS = ROWS * COLUMNS;
    private static final int MOST_LIGHT = 99, MOST_HOT = 99, MOST_TRAP = 50, MOST_TICKS = 999;
    private static final int MOST_VALUE = 255, MOST_BIN = 3;
    private static final int CAP = 0, DARK = 1, DRAIN = 2, SMEAR = 3, GAIN = 4, BY = 5, PHASES = 6, RULES = 7;
    private static final int TAPE_BYTES = 400, ROUND_WORDS = 12, MOST_WORD = 15, WORDS_OF_THREE = 7;
    private static final int IMAGES = 2, SHEETS = 4, LANES = 3, CELLS = 40, MOST_READS = 20;
    private static final int NULL_FAULT = 1, INDEX_FAULT = 2, CAST_FAULT = 3, SIZE_FAULT = 4;

    private final Tape tape = new Tape();
    private final Plan plan = new Plan();
    private final Reader reader = new Reader(tape);
    private final Charge charge = new Charge();
    private final Charge[] images = new Charge[IMAGES];
    private final boolean[] kept = new boolean[IMAGES];
    private final Picture asItIs = new Picture();
    private final Picture unspoiled = new Picture();
    private final Gates gates = new Gates();
    private final Sheet[] sheets = new Sheet[SHEETS];
    private int tornBy;

    public BucketSheet() {
        for (int i = 0; i < IMAGES; i++) {
            images[i] = new Charge();
        }
        for (int k = 0; k < SHEETS; k++) {
            sheets[k] = new Sheet();
        }
    }

    // ---- the text

    public int feed(long v) {
        return tape.append(v);
    }

    public int end(int n) {
        if (n < 0 || n > tape.length) {
            return BAD;
        }
        int had = tape.length;
        tape.length = n;
        return had;
    }

    public int text() {
        int answer = reader.readAll();
        tape.length = 0;
        if (reader.found == 0) {
            tellAll();
        }
        return answer;
    }

    public int fault() {
        return reader.found;
    }

    public int rule(int what) {
        return what < 0 || what >= RULES ? BAD : plan.rules[what];
    }

    public int well(int w, int what) {
        if (!isWell(w)) {
            return BAD;
        }
        switch (what) {
            case 0: return charge.wells[w];
            case 1: return charge.light[w];
            case 2: return plan.hot[w];
            case 3: return plan.trap[w];
            case 4: return charge.held[w];
            default: return BAD;
        }
    }

    public int light(int w, int v) {
        if (!isLighting(w, v)) {
            return BAD;
        }
        int was = charge.light[w];
        charge.light[w] = v;
        return was;
    }

    // ---- charge

    public int expose(int t) {
        if (!isTicks(t)) {
            return BAD;
        }
        charge.fillFor(t, plan);
        return sumOf(charge.wells);
    }

    public int down() {
        charge.handDown(plan, true);
        return sumOf(charge.line);
    }

    public int read() {
        return valueOf(charge.readOne(), plan);
    }

    public int line(int c) {
        return isColumn(c) ? charge.line[c] : BAD;
    }

    public long now(int what) {
        switch (what) {
            case 0: return sumOf(charge.wells);
            case 1: return sumOf(charge.line);
            case 2: return sumOf(charge.held);
            case 3: return charge.lost;
            case 4: return charge.readOut;
            case 5: return fullWells();
            case 6: return charge.came;
            default: return BAD;
        }
    }

    public int clear() {
        int had = sumOf(charge.wells) + sumOf(charge.line) + sumOf(charge.held);
        charge.drainAll();
        return had;
    }

    // ---- the picture

    public int picture(int v, int h, int row, int column) {
        if (!isBin(v) || !isBin(h)) {
            return BAD;
        }
        if (row < 0 || row >= binsOf(ROWS, v) || column < 0 || column >= binsOf(COLUMNS, h)) {
            return BAD;
        }
        asItIs.make(charge, plan, v, h, true);
        return asItIs.values[row * COLUMNS + column];
    }

    public int shades(int v, int h, int what) {
        if (!isBin(v) || !isBin(h) || what < 0 || what > 3) {
            return BAD;
        }
        asItIs.make(charge, plan, v, h, true);
        switch (what) {
            case 0: return asItIs.greatest();
            case 1: return asItIs.least();
            case 2: return asItIs.summed();
            default: return asItIs.brightest();
        }
    }

    public int late(int c) {
        if (!isColumn(c)) {
            return BAD;
        }
        asItIs.make(charge, plan, 1, 1, true);
        asItIs.shadow.handDown(plan, true);
        return asItIs.shadow.line[c];
    }

    public int smear(int w) {
        if (!isWell(w)) {
            return BAD;
        }
        int fallen = 0;
        for (int below = w + COLUMNS; below < WELLS; below += COLUMNS) {
            fallen += charge.light[below];
        }
        return fallen * plan.rules[SMEAR];
    }

    public int spoiled(int what) {
        if (what != 0 && what != 1) {
            return BAD;
        }
        asItIs.make(charge, plan, 1, 1, true);
        unspoiled.make(charge, plan, 1, 1, false);
        int differ = 0;
        int greatest = 0;
        for (int i = 0; i < WELLS; i++) {
            int difference = Math.abs(asItIs.values[i] - unspoiled.values[i]);
            differ += difference > 0 ? 1 : 0;
            greatest = Math.max(greatest, difference);
        }
        return what == 0 ? differ : greatest;
    }

    // ---- how long

    public int full(int w) {
        if (!isWell(w)) {
            return BAD;
        }
        int inTick = comesInTick(w);
        return inTick < 1 ? NONE : binsOf(plan.rules[CAP], inTick);
    }

    public int longest() {
        int most = 0;
        for (int w = 0; w < WELLS; w++) {
            most = Math.max(most, comesInTick(w));
        }
        return most < 1 ? MOST_TICKS : Math.min(MOST_TICKS, plan.rules[CAP] / most);
    }

    public int enough(int n) {
        if (n < 1 || n > 999) {
            return BAD;
        }
        int needed = 1;
        for (int w = 0; w < WELLS; w++) {
            if (charge.light[w] > 0) {
                needed = Math.max(needed, binsOf(n, comesInTick(w)));
            }
        }
        return needed <= longest() ? needed : NONE;
    }

    public long hots(int t, int n) {
        if (!isTicks(t) || n < 1 || n > 9999) {
            return BAD;
        }
        long bits = 0;
        for (int w = 0; w < WELLS; w++) {
            if ((plan.hot[w] + plan.rules[DARK]) * t >= n) {
                bits |= 1L << w;
            }
        }
        return bits;
    }

    public int mended(int w) {
        if (!isWell(w)) {
            return BAD;
        }
        int column = w % COLUMNS;
        int sum = 0;
        int beside = 0;
        for (int side = 0; side < 4; side++) {
            int other = besideOf(w, column, side);
            if (isWell(other) && plan.hot[other] == 0) {
                sum += charge.wells[other];
                beside++;
            }
        }
        return beside == 0 ? NONE : sum / beside;
    }

    // ---- gates

    public int word(int v) {
        if (!isWord(v)) {
            return BAD;
        }
        if (plan.roundLength >= ROUND_WORDS) {
            return FULL;
        }
        plan.round[plan.roundLength] = v;
        plan.roundLength++;
        return plan.roundLength;
    }

    public int still() {
        int had = plan.roundLength;
        plan.roundLength = 0;
        return had;
    }

    public int words(int i) {
        return i < 0 || i >= plan.roundLength ? BAD : plan.round[i];
    }

    public int clock(int what) {
        if (what < 0 || what > 2) {
            return BAD;
        }
        gates.bePhases(plan.rules[PHASES]);
        if (plan.roundLength == 0 || !gates.isGood(plan.round[0])) {
            return STATE;
        }
        gates.goRound(plan);
        switch (what) {
            case 0: return gates.wrong == 0 ? NONE : gates.wrongAt;
            case 1: return gates.wrong;
            default: return gates.wrong == 0 ? gates.carried + 100 : NONE;
        }
    }

    public int goes(int a, int b) {
        if (!isWord(a) || !isWord(b)) {
            return BAD;
        }
        gates.bePhases(plan.rules[PHASES]);
        if (!gates.isGood(a)) {
            return STATE;
        }
        return gates.fare(a, gates.startOf(a), b);
    }

    public int fewest(int by) {
        if (by < -1 || by > 1) {
            return BAD;
        }
        gates.bePhases(plan.rules[PHASES]);
        for (int n = 1; n <= ROUND_WORDS; n++) {
            for (int first = 0; first <= mostWord(); first++) {
                if (gates.waysRound(first, n, by) > 0) {
                    return n;
                }
            }
        }
        return NONE;
    }

    public long rounds(int first, int n, int d) {
        if (!isWord(first) || n < 1 || n > ROUND_WORDS || d < -3 || d > 3) {
            return BAD;
        }
        gates.bePhases(plan.rules[PHASES]);
        return gates.waysRound(first, n, d);
    }

    // ---- images, sheets

    public int keep(int i) {
        if (i < 0 || i >= IMAGES) {
            return BAD;
        }
        int was = kept[i] ? 1 : 0;
        images[i].takeFrom(charge);
        kept[i] = true;
        return was;
    }

    public int back(int i) {
        if (i < 0 || i >= IMAGES) {
            return BAD;
        }
        if (!kept[i]) {
            return STATE;
        }
        charge.takeFrom(images[i]);
        return sumOf(charge.wells);
    }

    public int sheet(int k, int lane, int n) {
        if (!isSheet(k) || !isLane(lane) || n > CELLS) {
            return BAD;
        }
        if (n < 0) {
            return -10 - SIZE_FAULT;
        }
        sheets[k].renew(lane, n);
        return 1;
    }

    public int lay(int k, int i, int v) {
        if (!isSheet(k)) {
            return BAD;
        }
        Sheet row = sheets[k];
        int found = row.faultAt(row.lane, i);
        if (found != 0) {
            return -10 - found;
        }
        row.put(i, v);
        return 1;
    }

    public int reads(int k, int lane, int f, int n) {
        if (!isSheet(k) || !isLane(lane) || n < 0 || n > MOST_READS) {
            return BAD;
        }
        Sheet row = sheets[k];
        int found = 0;
        int whole = 0;
        for (int i = 0; i < n; i++) {
            found = row.pairFaultAt(lane, f + 2 * i);
            if (found != 0) {
                break;
            }
            if (!isLighting(row.cells[f + 2 * i], row.cells[f + 2 * i + 1])) {
                return -20 - i;
            }
            whole++;
        }
        for (int i = 0; i < whole; i++) {
            charge.light[row.cells[f + 2 * i]] = row.cells[f + 2 * i + 1];
        }
        tornBy = found;
        return whole;
    }

    public int torn() {
        return tornBy;
    }

    public int count(int what) {
        switch (what) {
            case 0: return howManyAbove0(plan.hot);
            case 1: return howManyAbove0(plan.trap);
            case 2: return plan.roundLength;
            case 3: return (kept[0] ? 1 : 0) + (kept[1] ? 1 : 0);
            case 4: return tape.length;
            case 5: return sheets[0].length < 0 ? NONE : sheets[0].length;
            case 6: return howManyAbove0(charge.light);
            default: return BAD;
        }
    }

    // ---- what the calls share

    private static boolean isWell(int w) {
        return w >= 0 && w < WELLS;
    }

    private static boolean isColumn(int c) {
        return c >= 0 && c < COLUMNS;
    }

    private static boolean isLighting(int w, int v) {
        return isWell(w) && v >= 0 && v <= MOST_LIGHT;
    }

    private static boolean isTicks(int t) {
        return t >= 1 && t <= MOST_TICKS;
    }

    private static boolean isBin(int n) {
        return n >= 1 && n <= MOST_BIN;
    }

    private static boolean isSheet(int k) {
        return k >= 0 && k < SHEETS;
    }

    private static boolean isLane(int lane) {
        return lane >= 0 && lane < LANES;
    }

    private boolean isWord(int v) {
        return v >= 0 && v <= mostWord();
    }

    private int mostWord() {
        return plan.rules[PHASES] == 3 ? WORDS_OF_THREE : MOST_WORD;
    }

    private static int sumOf(int[] parts) {
        int sum = 0;
        for (int part : parts) {
            sum += part;
        }
        return sum;
    }

    private static int howManyAbove0(int[] parts) {
        int many = 0;
        for (int part : parts) {
            many += part > 0 ? 1 : 0;
        }
        return many;
    }

    private int fullWells() {
        int many = 0;
        for (int w = 0; w < WELLS; w++) {
            many += charge.wells[w] >= plan.rules[CAP] ? 1 : 0;
        }
        return many;
    }

    private int comesInTick(int w) {
        return charge.light[w] + plan.hot[w] + plan.rules[DARK];
    }

    /** The WELL above, below, before, behind (side 0 to 3); -1: there is none. */
    private static int besideOf(int w, int column, int side) {
        switch (side) {
            case 0: return w - COLUMNS;
            case 1: return w + COLUMNS;
            case 2: return column > 0 ? w - 1 : -1;
            default: return column < COLUMNS - 1 ? w + 1 : -1;
        }
    }

    /** all by size, rounded up. */
    private static int binsOf(int all, int size) {
        return size < 1 ? 0 : (all + size - 1) / size;
    }

    private static int valueOf(int read, Plan plan) {
        int by = Math.max(1, plan.rules[BY]);
        return Math.min(MOST_VALUE, read * plan.rules[GAIN] / by);
    }

    private void tellAll() {
        plan.takeFrom(reader.told);
        charge.drainAll();
        System.arraycopy(reader.toldLight, 0, charge.light, 0, WELLS);
        kept[0] = false;
        kept[1] = false;
    }

    /** What a text tells that stays till the next one, and THE ROUND. */
    private static final class Plan {
        final int[] rules = new int[RULES];
        final int[] hot = new int[WELLS];
        final int[] trap = new int[WELLS];
        final int[] round = new int[ROUND_WORDS];
        int roundLength;

        Plan() {
            beAsAtFirst();
        }

        void beAsAtFirst() {
            rules[CAP] = 200;
            rules[DARK] = 0;
            rules[DRAIN] = 0;
            rules[SMEAR] = 0;
            rules[GAIN] = 1;
            rules[BY] = 1;
            rules[PHASES] = 3;
            Arrays.fill(hot, 0);
            Arrays.fill(trap, 0);
            roundLength = 0;
        }

        void takeFrom(Plan other) {
            System.arraycopy(other.rules, 0, rules, 0, RULES);
            System.arraycopy(other.hot, 0, hot, 0, WELLS);
            System.arraycopy(other.trap, 0, trap, 0, WELLS);
            System.arraycopy(other.round, 0, round, 0, ROUND_WORDS);
            roundLength = other.roundLength;
        }
    }

    private static final class Tape {
        final byte[] bytes = new byte[TAPE_BYTES];
        int length;

        int append(long eight) {
            if (length + 8 > TAPE_BYTES) {
                return FULL;
            }
            for (int shift = 56; shift >= 0; shift -= 8) {
                bytes[length] = (byte) (eight >> shift);
                length++;
            }
            return length;
        }

        /** The byte at a place, -1 where there is none. */
        int byteAt(int place) {
            return place < 0 || place >= length ? -1 : bytes[place] & 255;
        }
    }

    /**
     * Reads a text into a plan of its own, so that a FAULT leaves what was told as it is. A TOKEN is
     * fetched only when it is wanted: so FAULTS are met in the order that the document tells.
     */
    private static final class Reader {
        private static final int NOTHING = 0, AT_END = 1, NAME = 2, NUMBER = 3, SIGN = 4;
        private static final int ROW = 0, HOT = 1, TRAP = 2, CAP_LINE = 3, DARK_LINE = 4, DRAIN_LINE = 5,
            SMEAR_LINE = 6, GAIN_LINE = 7, PHASES_LINE = 8, CLOCK_LINE = 9, KINDS = 10;
        private static final int NO_TOKEN = 1, MISPLACED = 2, OUT_OF_BOUNDS = 3, AGAIN = 4, TOO_MANY = 5, TOO_HIGH = 6;
        private static final int MOST_FIGURES = 3;

        private final Tape tape;
        final Plan told = new Plan();
        final int[] toldLight = new int[WELLS];
        private final boolean[] seen = new boolean[KINDS];
        private int at;
        private int token;
        private int start;
        private int value;
        private int rows;
        private int place;
        int found;

        Reader(Tape tape) {
            this.tape = tape;
        }

        /** How many lines, or -10 less the place of the FAULT. */
        int readAll() {
            begin();
            int lines = 0;
            fetch();
            for (int i = 0; i < TAPE_BYTES && found == 0 && token != AT_END; i++) {
                readLine();
                lines++;
                fetch();
            }
            lookAtWords();
            return found == 0 ? lines : -10 - place;
        }

        private void begin() {
            told.beAsAtFirst();
            Arrays.fill(toldLight, 0);
            for (int i = 0; i < KINDS; i++) {
                seen[i] = false;
            }
            at = 0;
            rows = 0;
            found = 0;
        }

        /** Only the first FAULT counts. */
        private void fail(int what, int where) {
            if (found == 0) {
                found = what;
                place = where;
            }
        }

        private void fetch() {
            token = NOTHING;
            if (found != 0) {
                return;
            }
            for (int i = 0; i < TAPE_BYTES && tape.byteAt(at) == ' '; i++) {
                at++;
            }
            start = at;
            value = 0;
            token = tokenOf(tape.byteAt(at));
            if (token == SIGN) {
                at++;
            } else if (token == NAME || token == NUMBER) {
                takeAlike();
            }
            if (token == NOTHING || token == NUMBER && at - start > MOST_FIGURES) {
                token = NOTHING;
                fail(NO_TOKEN, start);
            }
        }

        /** The value of a NUMBER that is too long is never asked for. */
        private void takeAlike() {
            for (int i = 0; i < TAPE_BYTES && tokenOf(tape.byteAt(at)) == token; i++) {
                value = value * 10 + tape.byteAt(at) - '0';
                at++;
            }
        }

        private static int tokenOf(int sign) {
            if (sign < 0) {
                return AT_END;
            }
            if (sign >= 'a' && sign <= 'z') {
                return NAME;
            }
            if (sign >= '0' && sign <= '9') {
                return NUMBER;
            }
            return sign == ';' ? SIGN : NOTHING;
        }

        private void readLine() {
            int kind = kindHere();
            if (!mayBegin(kind)) {
                return;
            }
            seen[kind] = true;
            switch (kind) {
                case ROW: readRow(); break;
                case HOT: readPart(told.hot, MOST_HOT); break;
                case TRAP: readPart(told.trap, MOST_TRAP); break;
                case CAP_LINE: told.rules[CAP] = number(1, 999); break;
                case DARK_LINE: told.rules[DARK] = number(0, 9); break;
                case DRAIN_LINE: told.rules[DRAIN] = 1; break;
                case SMEAR_LINE: told.rules[SMEAR] = number(0, 9); break;
                case GAIN_LINE:
                    told.rules[GAIN] = number(1, 9);
                    told.rules[BY] = number(1, 99);
                    break;
                case PHASES_LINE: told.rules[PHASES] = number(3, 4); break;
                default: readRound(); break;
            }
            if (kind != CLOCK_LINE) {
                fetch();
            }
            if (token != SIGN) {
                fail(MISPLACED, start);
            }
        }

        private boolean mayBegin(int kind) {
            if (kind < 0 || kind >= KINDS) {
                fail(MISPLACED, start);
            } else if (kind == ROW && rows >= ROWS) {
                fail(TOO_MANY, start);
            } else if (kind >= CAP_LINE && seen[kind]) {
                fail(AGAIN, start);
            }
            return found == 0;
        }

        /** Which line the NAME here begins, -1: none. */
        private int kindHere() {
            if (token != NAME) {
                return -1;
            }
            for (int kind = 0; kind < KINDS; kind++) {
                if (spells(nameOf(kind))) {
                    return kind;
                }
            }
            return -1;
        }

        private static String nameOf(int kind) {
            switch (kind) {
                case ROW: return "row";
                case HOT: return "hot";
                case TRAP: return "trap";
                case CAP_LINE: return "cap";
                case DARK_LINE: return "dark";
                case DRAIN_LINE: return "drain";
                case SMEAR_LINE: return "smear";
                case GAIN_LINE: return "gain";
                case PHASES_LINE: return "phases";
                default: return "clock";
            }
        }

        private boolean spells(String name) {
            if (name.length() != at - start) {
                return false;
            }
            for (int i = 0; i < name.length(); i++) {
                if (tape.byteAt(start + i) != name.charAt(i)) {
                    return false;
                }
            }
            return true;
        }

        private void readRow() {
            for (int column = 0; column < COLUMNS; column++) {
                toldLight[rows * COLUMNS + column] = number(0, MOST_LIGHT);
            }
            rows++;
        }

        /** The WELL is looked at before its part is fetched. */
        private void readPart(int[] parts, int most) {
            int w = number(0, WELLS - 1);
            if (parts[w] != 0) {
                fail(AGAIN, start);
            }
            parts[w] = number(1, most);
        }

        /** The token behind the last WORD has been fetched then. */
        private void readRound() {
            fetch();
            for (int i = 0; i <= ROUND_WORDS && found == 0; i++) {
                int next = numberHere(0, MOST_WORD);
                if (told.roundLength >= ROUND_WORDS) {
                    fail(TOO_MANY, start);
                } else {
                    told.round[told.roundLength] = next;
                    told.roundLength++;
                }
                fetch();
                if (token != NUMBER) {
                    break;
                }
            }
        }

        private int number(int least, int most) {
            fetch();
            return numberHere(least, most);
        }

        /** The NUMBER here; where it is wrong, or a FAULT was met ahead, the least that it may be. */
        private int numberHere(int least, int most) {
            if (token != NUMBER) {
                fail(MISPLACED, start);
                return least;
            }
            if (value < least || value > most) {
                fail(OUT_OF_BOUNDS, start);
                return least;
            }
            return value;
        }

        private void lookAtWords() {
            if (told.rules[PHASES] != 3) {
                return;
            }
            for (int i = 0; i < told.roundLength; i++) {
                if (told.round[i] > WORDS_OF_THREE) {
                    fail(TOO_HIGH, tape.length);
                }
            }
        }
    }

    /** All that an IMAGE keeps: LIGHT, CHARGE, sums. */
    private static final class Charge {
        final int[] light = new int[WELLS];
        final int[] wells = new int[WELLS];
        final int[] held = new int[WELLS];
        final int[] line = new int[COLUMNS];
        long lost;
        long readOut;
        long came;

        void takeFrom(Charge other) {
            System.arraycopy(other.light, 0, light, 0, WELLS);
            System.arraycopy(other.wells, 0, wells, 0, WELLS);
            System.arraycopy(other.held, 0, held, 0, WELLS);
            System.arraycopy(other.line, 0, line, 0, COLUMNS);
            lost = other.lost;
            readOut = other.readOut;
            came = other.came;
        }

        /** LIGHT stays. */
        void drainAll() {
            Arrays.fill(wells, 0);
            Arrays.fill(held, 0);
            Arrays.fill(line, 0);
            lost = 0;
            readOut = 0;
            came = 0;
        }

        void fillFor(int ticks, Plan plan) {
            for (int w = 0; w < WELLS; w++) {
                bring(w, (light[w] + plan.hot[w] + plan.rules[DARK]) * ticks);
            }
            runOver(plan);
        }

        private void bring(int w, int more) {
            wells[w] += more;
            came += more;
        }

        private void runOver(Plan plan) {
            int cap = plan.rules[CAP];
            for (int w = 0; w < WELLS; w++) {
                int above = wells[w] - cap;
                if (above > 0) {
                    wells[w] = cap;
                    lost += plan.rules[DRAIN] == 1 ? above : spread(w, above, cap);
                }
            }
        }

        /** What of it found no room in the COLUMN. */
        private int spread(int w, int over, int cap) {
            int left = over;
            for (int far = 1; far < ROWS && left > 0; far++) {
                left -= pourInto(w - far * COLUMNS, left, cap);
                left -= pourInto(w + far * COLUMNS, left, cap);
            }
            return left;
        }

        private int pourInto(int w, int offered, int cap) {
            if (!isWell(w) || wells[w] >= cap) {
                return 0;
            }
            int taken = Math.min(offered, cap - wells[w]);
            wells[w] += taken;
            return taken;
        }

        /** spoiling: with TRAPS and smear. */
        void handDown(Plan plan, boolean spoiling) {
            rowsDown(2 * plan.rules[CAP]);
            if (spoiling) {
                trapAll(plan);
                for (int w = 0; w < WELLS; w++) {
                    bring(w, light[w] * plan.rules[SMEAR]);
                }
            }
            runOver(plan);
        }

        private void rowsDown(int lineCap) {
            for (int c = 0; c < COLUMNS; c++) {
                int sum = line[c] + wells[WELLS - COLUMNS + c];
                line[c] = Math.min(sum, lineCap);
                lost += sum - line[c];
            }
            for (int w = WELLS - 1; w >= COLUMNS; w--) {
                wells[w] = wells[w - COLUMNS];
            }
            for (int c = 0; c < COLUMNS; c++) {
                wells[c] = 0;
            }
        }

        private void trapAll(Plan plan) {
            for (int w = 0; w < WELLS; w++) {
                int taken = wells[w] > 0 ? Math.min(wells[w], plan.trap[w] - held[w]) : -held[w];
                held[w] += taken;
                wells[w] -= taken;
            }
        }

        /** The CHARGE that is read. */
        int readOne() {
            int read = line[COLUMNS - 1];
            for (int c = COLUMNS - 1; c > 0; c--) {
                line[c] = line[c - 1];
            }
            line[0] = 0;
            readOut += read;
            return read;
        }
    }

    /** THE PICTURE, taken of a shadow so that all stays. */
    private static final class Picture {
        final Charge shadow = new Charge();
        /** A ROW of it begins each COLUMNS places. */
        final int[] values = new int[WELLS];
        private int rows;
        private int columns;

        void make(Charge charge, Plan plan, int v, int h, boolean spoiling) {
            shadow.takeFrom(charge);
            Arrays.fill(shadow.line, 0);
            rows = Math.min(ROWS, binsOf(ROWS, v));
            columns = Math.min(COLUMNS, binsOf(COLUMNS, h));
            for (int row = 0; row < rows; row++) {
                for (int i = 0; i < v; i++) {
                    shadow.handDown(plan, spoiling);
                }
                readRowOf(plan, row, h);
            }
        }

        /** What lies behind the last PLACE is empty, so the last ones need no case of their own. */
        private void readRowOf(Plan plan, int row, int h) {
            for (int column = 0; column < columns; column++) {
                int sum = 0;
                for (int i = 0; i < h; i++) {
                    sum += shadow.readOne();
                }
                values[row * COLUMNS + column] = valueOf(sum, plan);
            }
        }

        int greatest() {
            int most = 0;
            for (int i = 0; i < rows * columns; i++) {
                most = Math.max(most, valueIn(i));
            }
            return most;
        }

        int least() {
            int least = MOST_VALUE;
            for (int i = 0; i < rows * columns; i++) {
                least = Math.min(least, valueIn(i));
            }
            return least;
        }

        int summed() {
            int sum = 0;
            for (int i = 0; i < rows * columns; i++) {
                sum += valueIn(i);
            }
            return sum;
        }

        int brightest() {
            int many = 0;
            for (int i = 0; i < rows * columns; i++) {
                many += valueIn(i) == MOST_VALUE ? 1 : 0;
            }
            return many;
        }

        private int valueIn(int i) {
            return columns < 1 ? 0 : values[i / columns * COLUMNS + i % columns];
        }
    }

    /**
     * The line of GATES. A PACKET is told by its WORD and the GATE at which its REGION begins: a WORD
     * of 4 phases may have two REGIONS a well, so the WORD alone does not tell it.
     */
    private static final class Gates {
        private static final int SPILLS = 1, SPLITS = 2, MIXES = 3;
        private static final int MOST_PHASES = 4, ALL_WORDS = MOST_WORD + 1;
        /** Of 4 phases 12 WORDS have one REGION a well, two have two. */
        private static final int MOST_REGIONS = 16;
        /** In 12 WORDS a PACKET gets on by less than a well each two: the wells looked at reach further. */
        private static final int REACH = 8, SPAN = 2 * REACH;

        private int phases;
        /** Where the REGION begins to which the latest PACKET that fared well came. */
        private int landed;
        int wrong;
        int wrongAt;
        int carried;

        /** The REGIONS of all WORDS that begin in the well 0, and how PACKETS go on from one to another. */
        private final int[] wordOf = new int[MOST_REGIONS];
        private final int[] startIn = new int[MOST_REGIONS];
        private int regions;
        private final int[] regionAt = new int[ALL_WORDS * MOST_PHASES];
        private final int[] goesTo = new int[MOST_REGIONS * ALL_WORDS];
        private final int[] goesBy = new int[MOST_REGIONS * ALL_WORDS];

        /** How many rows of WORDS bring a PACKET under a REGION, so many wells on. */
        private long[] ways = new long[MOST_REGIONS * SPAN];
        private long[] waysNext = new long[MOST_REGIONS * SPAN];

        void bePhases(int many) {
            int wanted = many == MOST_PHASES ? MOST_PHASES : 3;
            if (phases != wanted) {
                phases = wanted;
                listRegions();
                listGoing();
            }
        }

        private int allHigh() {
            return (1 << phases) - 1;
        }

        private boolean isHigh(int word, int gate) {
            return (word >> Math.floorMod(gate, phases == MOST_PHASES ? MOST_PHASES : 3) & 1) == 1;
        }

        private boolean beginsAt(int word, int gate) {
            return isHigh(word, gate) && !isHigh(word, gate - 1);
        }

        boolean isGood(int word) {
            int many = 0;
            for (int gate = 0; gate < phases; gate++) {
                many += beginsAt(word, gate) ? 1 : 0;
            }
            return many == 1;
        }

        /** The first GATE in the well 0 at which a REGION begins. */
        int startOf(int word) {
            for (int gate = 0; gate < phases; gate++) {
                if (beginsAt(word, gate)) {
                    return gate;
                }
            }
            return 0;
        }

        private int firstOfRegion(int word, int gate) {
            int first = gate;
            for (int i = 0; i < phases && isHigh(word, first - 1); i++) {
                first--;
            }
            return first;
        }

        private int lastOfRegion(int word, int gate) {
            int last = gate;
            for (int i = 0; i < phases && isHigh(word, last + 1); i++) {
                last++;
            }
            return last;
        }

        /**
         * What is wrong with a PACKET under the REGION from start on as next comes; 0: it has landed. Where a REGION of
         * next has GATES of two PACKETS, each of these has GATES of two REGIONS as well, so it SPLITS first: what MIXES
         * is all HIGH alone.
         */
        int fare(int word, int start, int next) {
            int last = lastOfRegion(word, start);
            int touched = 0;
            int gate = start;
            for (int g = start; g <= last; g++) {
                if (isHigh(next, g) && (g == start || !isHigh(next, g - 1))) {
                    touched++;
                    gate = g;
                }
            }
            if (touched != 1) {
                return touched == 0 ? SPILLS : SPLITS;
            }
            if (next == allHigh()) {
                return MIXES;
            }
            landed = firstOfRegion(next, gate);
            return 0;
        }

        /** THE ROUND, whose first WORD is good, once through, up to what is wrong first. */
        void goRound(Plan plan) {
            int many = Math.min(plan.roundLength, ROUND_WORDS);
            int begin = startOf(plan.round[0]);
            int start = begin;
            wrong = 0;
            for (int i = 1; i <= many && wrong == 0; i++) {
                int next = i < many ? i : 0;
                wrong = fare(plan.round[i - 1], start, plan.round[next]);
                wrongAt = next;
                start = landed;
            }
            carried = wellsIn(start - begin);
        }

        private int wellsIn(int gatesOn) {
            return Math.floorDiv(gatesOn, phases == MOST_PHASES ? MOST_PHASES : 3);
        }

        private void listRegions() {
            regions = 0;
            for (int word = 1; word < allHigh(); word++) {
                for (int gate = 0; gate < phases; gate++) {
                    if (beginsAt(word, gate) && regions < MOST_REGIONS) {
                        wordOf[regions] = word;
                        startIn[regions] = gate;
                        regionAt[word * MOST_PHASES + gate] = regions;
                        regions++;
                    }
                }
            }
        }

        private void listGoing() {
            Arrays.fill(goesTo, -1);
            for (int region = 0; region < regions; region++) {
                for (int next = 1; next < allHigh(); next++) {
                    if (fare(wordOf[region], startIn[region], next) == 0) {
                        int by = wellsIn(landed);
                        goesTo[region * ALL_WORDS + next] = regionAt[next * MOST_PHASES + landed - by * phases];
                        goesBy[region * ALL_WORDS + next] = by;
                    }
                }
            }
        }

        /** How many ROUNDS of n WORDS from first on have nothing wrong and carry by d. */
        long waysRound(int first, int n, int d) {
            if (!isGood(first)) {
                return 0;
            }
            int begin = regionAt[first * MOST_PHASES + startOf(first)];
            Arrays.fill(ways, 0);
            ways[begin * SPAN + REACH] = 1;
            for (int i = 1; i < n; i++) {
                goOnByAWord();
            }
            long sum = 0;
            for (int region = 0; region < regions; region++) {
                int going = region * ALL_WORDS + first;
                int well = REACH + d - goesBy[going];
                if (goesTo[going] == begin && well >= 0 && well < SPAN) {
                    sum += ways[region * SPAN + well];
                }
            }
            return sum;
        }

        private void goOnByAWord() {
            Arrays.fill(waysNext, 0);
            for (int region = 0; region < regions; region++) {
                for (int next = 1; next < allHigh(); next++) {
                    int going = region * ALL_WORDS + next;
                    if (goesTo[going] >= 0) {
                        addWays(region, goesTo[going], goesBy[going]);
                    }
                }
            }
            long[] gone = ways;
            ways = waysNext;
            waysNext = gone;
        }

        private void addWays(int from, int to, int by) {
            for (int well = Math.max(0, -by); well < SPAN && well + by < SPAN; well++) {
                waysNext[to * SPAN + well + by] += ways[from * SPAN + well];
            }
        }
    }

    /** A row of CELLS of one lane: length -1 is nothing. */
    private static final class Sheet {
        final int[] cells = new int[CELLS];
        int lane;
        int length = -1;

        void renew(int newLane, int n) {
            Arrays.fill(cells, 0);
            lane = newLane;
            length = n;
        }

        /** The FAULT that the machine would find at a CELL of this row taken as of a lane; 0. */
        int faultAt(int asLane, int i) {
            if (length < 0) {
                return NULL_FAULT;
            }
            if (asLane != lane) {
                return CAST_FAULT;
            }
            return i < 0 || i >= length ? INDEX_FAULT : 0;
        }

        int pairFaultAt(int asLane, int i) {
            int found = faultAt(asLane, i);
            return found != 0 ? found : faultAt(asLane, i + 1);
        }

        void put(int i, int v) {
            cells[i] = lane == 0 ? (byte) v : lane == 1 ? (short) v : v;
        }
    }
}
