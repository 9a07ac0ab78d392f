import java.util.Arrays;

/**
 * A desk for spoken commands; the document's promises are told by number at each method.
 * Every row is made in a constructor and used again, so that no call but a thrown one makes an object.
 */
public final class SpokenDesk {
    public static final int NONE = -1;

    private static final int SOUNDS = 16;
    private static final int MOST_COST = 100;
    private static final int HAND_SOUNDS = 40;
    private static final int TAPE_BYTES = 400;
    private static final int FEED_BYTES = 20;
    private static final int SPELLING_LETTERS = 10;
    private static final int RULE_LETTERS = 4;
    private static final int RULE_SOUNDS = 3;
    private static final int MOST_RULES = 60;
    private static final int MOST_BOOK = 40;
    private static final int READ_SOUNDS = 20;
    private static final int MOST_WORDS = 20;
    private static final int MOST_POINTS = 8;
    private static final int MOST_COMMANDS = 120;
    private static final int COMMAND_SOUNDS = 40;
    private static final int MOST_SLOTS = 8;
    private static final int SLOT_WORDS = 4;

    private static final int NO_SPELLING = -1;
    private static final int FULL = -2;
    private static final int UNREAD = -2;
    private static final int FAULT_BASE = -10;

    private static final int NO_FAULT = 0;
    private static final int FAULT_SIGN = 1;
    private static final int FAULT_LETTERS = 2;
    private static final int FAULT_UNREAD = 3;
    private static final int FAULT_MANY = 4;
    private static final int FAULT_COMMANDS = 5;
    private static final int FAULT_SOUNDS = 6;

    /** Above every DISTANCE: two rows of 40 SOUNDS lie 8000 apart at most. */
    private static final int FAR = 1000000;

    private final Costs costs;
    private final Measure measure;
    private final Rows pushed;
    private final Tape tape;
    private final Lexicon rules;
    private final Lexicon entries;
    private final Reader reader;
    private final Parser parser;
    private final Nearest nearest;
    private final Hearing hearing;
    private final Slots slots;
    private final Grammar spoken;
    private int faultPlace;

    /** Promise 1. */
    public SpokenDesk() {
        costs = new Costs();
        measure = new Measure(costs);
        pushed = new Rows(1, HAND_SOUNDS);
        tape = new Tape();
        rules = new Lexicon(MOST_RULES, RULE_LETTERS, RULE_SOUNDS);
        entries = new Lexicon(MOST_BOOK, SPELLING_LETTERS, READ_SOUNDS);
        reader = new Reader(rules, entries);
        parser = new Parser(reader);
        nearest = new Nearest();
        hearing = new Hearing();
        slots = new Slots();
        spoken = new Grammar();
        faultPlace = NONE;
    }

    /** Promise 2. */
    public int cost(int x, int y, int cost) throws IllegalArgumentException {
        needSoundOrNothing(x);
        needSoundOrNothing(y);
        if (x == y) {
            throw new IllegalArgumentException("the two are the same");
        }
        if (cost < 1 || cost > MOST_COST) {
            throw new IllegalArgumentException("the cost is not 1 to 100");
        }
        return costs.change(x, y, cost);
    }

    /** Promise 3. */
    public int near(int x, int y) throws IllegalArgumentException {
        needSoundOrNothing(x);
        needSoundOrNothing(y);
        return costs.least(x, y);
    }

    /** Promise 4. */
    public int push(int sound) throws IllegalArgumentException {
        if (sound < 0 || sound >= SOUNDS) {
            throw new IllegalArgumentException("no such sound");
        }
        return pushed.add(0, sound) ? pushed.length(0) : NONE;
    }

    /** Promise 5. */
    public int drop() {
        int had = pushed.length(0);
        pushed.clear(0);
        return had;
    }

    /** Promise 6. */
    public int hand(int k) {
        return pushed.at(0, k);
    }

    /** Promise 7. */
    public int feed(int a, int b, int c, int d, int e) {
        if (!tape.hasRoom()) {
            return NONE;
        }
        tape.put(a);
        tape.put(b);
        tape.put(c);
        tape.put(d);
        tape.put(e);
        return tape.size();
    }

    /** Promise 8. */
    public int rule(int n) throws IllegalArgumentException {
        needBytes(n);
        return tell(rules, n, 0);
    }

    /** Promise 9. */
    public int book(int n) throws IllegalArgumentException {
        needBytes(n);
        return tell(entries, n, 1);
    }

    /** Promise 10. */
    public int read(int n) throws IllegalArgumentException {
        needBytes(n);
        int answer = readTape(n);
        if (answer > 0) {
            pushed.copy(0, reader.result(), 0);
        }
        return answer;
    }

    /** Promise 11. */
    public int grammar(int n) throws IllegalArgumentException {
        needBytes(n);
        tape.clear();
        int fault = parser.parse(tape.text(), n, spoken);
        if (fault == NO_FAULT) {
            fault = spoken.takeCommands();
        }
        if (fault != NO_FAULT) {
            faultPlace = parser.reached();
            return fault + FAULT_BASE;
        }
        faultPlace = NONE;
        nearest.forget();
        hearing.forget();
        return spoken.size();
    }

    /** Promise 12. */
    public int place() {
        return faultPlace;
    }

    /** Promise 13. */
    public int sound(int k, int i) throws IndexOutOfBoundsException {
        needCommand(k);
        return spoken.commands().at(k, i);
    }

    /** Promise 14. */
    public int pick(int k, int point) throws IndexOutOfBoundsException, IllegalArgumentException {
        needCommand(k);
        if (point < 0 || point >= spoken.points()) {
            throw new IllegalArgumentException("no such point");
        }
        return spoken.picked(k, point);
    }

    /** Promise 15. */
    public int distance(int k, int other) throws IndexOutOfBoundsException {
        needCommand(k);
        needCommand(other);
        measure.lay(spoken.commands(), k);
        return measure.reach(spoken.commands(), other, FAR);
    }

    /** Promise 16. */
    public int apart() {
        nearest.find(spoken, measure);
        return nearest.least();
    }

    /** Promise 17. */
    public int pair(int which) throws IllegalArgumentException {
        if (which != 0 && which != 1) {
            throw new IllegalArgumentException("neither the lower nor the other one");
        }
        nearest.find(spoken, measure);
        return which == 0 ? nearest.lower() : nearest.upper();
    }

    /** Promise 18. */
    public int hear() {
        if (spoken.size() == 0) {
            return NONE;
        }
        hearing.listen(spoken, pushed, measure);
        pushed.clear(0);
        return hearing.told(0);
    }

    /** Promise 19. */
    public int heard(int what) throws IllegalArgumentException {
        if (what < 0 || what > 5) {
            throw new IllegalArgumentException("nothing of this kind was heard");
        }
        return hearing.told(what);
    }

    /** Promise 20. */
    public int again(int k) {
        return hearing.asked(k);
    }

    /** Promise 21. */
    public int slot() throws IllegalStateException {
        if (slots.size() >= MOST_SLOTS) {
            throw new IllegalStateException("there are 8 slots");
        }
        return slots.open();
    }

    /** Promise 22. */
    public int word(int slot, int n)
            throws IndexOutOfBoundsException, IllegalArgumentException, IllegalStateException {
        needSlot(slot);
        needBytes(n);
        if (slots.wordsOf(slot) >= SLOT_WORDS) {
            throw new IllegalStateException("the slot has 4 words");
        }
        int answer = readTape(n);
        return answer > 0 ? slots.take(slot, reader.result()) : answer;
    }

    /** Promise 23. */
    public int best() {
        slots.choose(measure);
        return slots.worth();
    }

    /** Promise 24. */
    public int chosen(int slot) throws IndexOutOfBoundsException {
        needSlot(slot);
        slots.choose(measure);
        return slots.choiceOf(slot);
    }

    /** Promise 25. */
    public int count(int what) {
        switch (what) {
            case 0:
                return rules.size();
            case 1:
                return entries.size();
            case 2:
                return spoken.size();
            case 3:
                return spoken.points();
            case 4:
                return slots.size();
            case 5:
                return pushed.length(0);
            case 6:
                return tape.size();
            default:
                return NONE;
        }
    }

    private static void needSoundOrNothing(int x) {
        if (x < NONE || x >= SOUNDS) {
            throw new IllegalArgumentException("neither a sound nor nothing");
        }
    }

    private void needBytes(int n) {
        if (n < 0 || n > tape.size()) {
            throw new IllegalArgumentException("the tape has not so many bytes");
        }
    }

    private void needCommand(int k) {
        if (k < 0 || k >= spoken.size()) {
            throw new IndexOutOfBoundsException("no such command");
        }
    }

    private void needSlot(int slot) {
        if (slot < 0 || slot >= slots.size()) {
            throw new IndexOutOfBoundsException("no such slot");
        }
    }

    private int tell(Lexicon lexicon, int n, int fewestSounds) {
        int answer = NO_SPELLING;
        if (tape.isSpelling(n, lexicon.mostLetters()) && pushed.length(0) >= fewestSounds
                && pushed.length(0) <= lexicon.mostSounds()) {
            answer = lexicon.tell(codeOf(tape.text(), 0, n), n, pushed);
        }
        tape.clear();
        pushed.clear(0);
        return answer;
    }

    private int readTape(int n) {
        boolean spelling = tape.isSpelling(n, SPELLING_LETTERS);
        tape.clear();
        return spelling ? reader.tryText(tape.text(), 0, n) : NO_SPELLING;
    }

    private static boolean isLetter(int sign) {
        return sign >= 'a' && sign <= 'z';
    }

    /** The number of a SPELLING; no two of up to 12 letters have the same one. */
    private static long codeOf(int[] text, int from, int count) {
        long code = 0;
        int end = Math.min(from + count, text.length);
        for (int i = Math.max(from, 0); i < end; i++) {
            code = longer(code, text[i]);
        }
        return code;
    }

    private static long longer(long code, int letter) {
        return (code << 5) + (letter - 'a' + 1);
    }

    /** Rows of SOUNDS of one greatest length, held in one array to keep the objects few. */
    private static final class Rows {
        private final int width;
        private final int[] lengths;
        private final int[] sounds;

        Rows(int most, int width) {
            this.width = width;
            this.lengths = new int[most];
            this.sounds = new int[most * width];
        }

        int width() {
            return width;
        }

        int length(int row) {
            return row >= 0 && row < lengths.length ? lengths[row] : 0;
        }

        int at(int row, int i) {
            if (row < 0 || row >= lengths.length || i < 0 || i >= lengths[row]) {
                return NONE;
            }
            return sounds[row * width + i];
        }

        void clear(int row) {
            if (row >= 0 && row < lengths.length) {
                lengths[row] = 0;
            }
        }

        boolean add(int row, int sound) {
            if (row < 0 || row >= lengths.length || lengths[row] >= width) {
                return false;
            }
            sounds[row * width + lengths[row]] = sound;
            lengths[row]++;
            return true;
        }

        /** Adds what there is room for: whoever needs all of it counts ahead. */
        void join(int row, Rows from, int fromRow) {
            if (row < 0 || row >= lengths.length || fromRow < 0 || fromRow >= from.lengths.length) {
                return;
            }
            int many = Math.min(from.lengths[fromRow], width - lengths[row]);
            System.arraycopy(from.sounds, fromRow * from.width, sounds, row * width + lengths[row], many);
            lengths[row] += many;
        }

        void copy(int row, Rows from, int fromRow) {
            clear(row);
            join(row, from, fromRow);
        }
    }

    /** The TAPE; its bytes stand after clear() until the next put(), for the call that takes them. */
    private static final class Tape {
        private final int[] bytes = new int[TAPE_BYTES];
        private int size;

        boolean hasRoom() {
            return size + FEED_BYTES <= TAPE_BYTES;
        }

        void put(int number) {
            for (int shift = 24; shift >= 0 && size < TAPE_BYTES; shift -= 8) {
                bytes[size] = (number >>> shift) & 255;
                size++;
            }
        }

        int size() {
            return size;
        }

        void clear() {
            size = 0;
        }

        int[] text() {
            return bytes;
        }

        boolean isSpelling(int n, int mostLetters) {
            if (n < 1 || n > mostLetters || n > size) {
                return false;
            }
            for (int i = 0; i < n; i++) {
                if (!isLetter(bytes[i])) {
                    return false;
                }
            }
            return true;
        }
    }

    /** SPELLINGS with their rows: the RULES, and the BOOK. */
    private static final class Lexicon {
        private final int mostLetters;
        private final long[] codes;
        private final int[] lengths;
        private final Rows rows;
        private int size;

        Lexicon(int most, int mostLetters, int mostSounds) {
            this.mostLetters = mostLetters;
            this.codes = new long[most];
            this.lengths = new int[most];
            this.rows = new Rows(most, mostSounds);
        }

        int size() {
            return size;
        }

        int mostLetters() {
            return mostLetters;
        }

        int mostSounds() {
            return rows.width();
        }

        int lettersOf(int k) {
            return k >= 0 && k < size ? lengths[k] : 0;
        }

        Rows rows() {
            return rows;
        }

        int find(long code) {
            for (int k = 0; k < size; k++) {
                if (codes[k] == code) {
                    return k;
                }
            }
            return NONE;
        }

        int tell(long code, int letters, Rows row) {
            int k = find(code);
            if (k == NONE) {
                if (size >= codes.length) {
                    return FULL;
                }
                k = size;
                size++;
                codes[k] = code;
                lengths[k] = letters;
            }
            rows.copy(k, row, 0);
            return size;
        }
    }

    /** READING of SPELLINGS, by the BOOK and the RULES as they are at the time. */
    private static final class Reader {
        private final Lexicon rules;
        private final Lexicon entries;
        private final Rows result = new Rows(1, READ_SOUNDS);

        Reader(Lexicon rules, Lexicon entries) {
            this.rules = rules;
            this.entries = entries;
        }

        Rows result() {
            return result;
        }

        /** How many SOUNDS were read into the result; or -2 less the PLACE. */
        int tryText(int[] text, int from, int count) {
            int entry = entries.find(codeOf(text, from, count));
            if (entry == NONE) {
                return tryRules(text, from, count);
            }
            result.copy(0, entries.rows(), entry);
            return result.length(0);
        }

        private int tryRules(int[] text, int from, int count) {
            result.clear(0);
            int many = 0;
            int at = 0;
            while (at < count) {
                int rule = longest(text, from + at, count - at);
                if (rule == NONE) {
                    return UNREAD - at;
                }
                many += rules.rows().length(rule);
                result.join(0, rules.rows(), rule);
                at += Math.max(1, rules.lettersOf(rule));
            }
            return many < 1 || many > READ_SOUNDS ? UNREAD - count : many;
        }

        private int longest(int[] text, int from, int rest) {
            int found = NONE;
            long code = 0;
            int end = Math.min(from + Math.min(rest, RULE_LETTERS), text.length);
            for (int i = Math.max(from, 0); i < end; i++) {
                code = longer(code, text[i]);
                int rule = rules.find(code);
                if (rule != NONE) {
                    found = rule;
                }
            }
            return found;
        }
    }

    /** COSTS and NEAR. SOUND s stands at s + 1, so that NOTHING stands at 0. */
    private static final class Costs {
        private static final int SIZE = SOUNDS + 1;

        private final int[] costs = new int[SIZE * SIZE];
        private final int[] nears = new int[SIZE * SIZE];
        private int edition;
        private boolean stale;

        Costs() {
            Arrays.fill(costs, MOST_COST);
            for (int x = 0; x < SIZE; x++) {
                costs[x * SIZE + x] = 0;
            }
            stale = true;
        }

        int edition() {
            return edition;
        }

        int change(int x, int y, int cost) {
            int was = costs[(x + 1) * SIZE + y + 1];
            costs[(x + 1) * SIZE + y + 1] = cost;
            costs[(y + 1) * SIZE + x + 1] = cost;
            edition++;
            stale = true;
            return was;
        }

        int least(int x, int y) {
            refresh();
            return nears[(x + 1) * SIZE + y + 1];
        }

        void refresh() {
            if (!stale) {
                return;
            }
            System.arraycopy(costs, 0, nears, 0, costs.length);
            for (int by = 0; by < SIZE; by++) {
                for (int x = 0; x < SIZE; x++) {
                    goBy(x, by);
                }
            }
            stale = false;
        }

        private void goBy(int x, int by) {
            int toBy = nears[x * SIZE + by];
            for (int y = 0; y < SIZE; y++) {
                int sum = toBy + nears[by * SIZE + y];
                if (sum < nears[x * SIZE + y]) {
                    nears[x * SIZE + y] = sum;
                }
            }
        }

        /** NEAR of all, the same array for good: it is as now behind refresh(). */
        int[] table() {
            return nears;
        }
    }

    /**
     * DISTANCE of a row that is laid down to other ones. Column c of a line tells the least sum of the first c
     * SOUNDS of the row that is laid and of as many of the other one's as there were lines.
     */
    private static final class Measure {
        private final int[] across = new int[COMMAND_SOUNDS + 1];
        private final int[] firstLine = new int[COMMAND_SOUNDS + 1];
        private final int[] line = new int[COMMAND_SOUNDS + 1];
        private final Costs costs;
        private final int[] nears;
        private int width;
        private int low;
        private int high;

        Measure(Costs costs) {
            this.costs = costs;
            this.nears = costs.table();
        }

        /** Another number whenever a COST was changed: what was measured ahead is old then. */
        int edition() {
            return costs.edition();
        }

        /** Lays a row down; it is to be laid anew behind a change of COSTS. */
        void lay(Rows rows, int row) {
            costs.refresh();
            width = Math.min(rows.length(row), COMMAND_SOUNDS);
            for (int c = 1; c <= width; c++) {
                across[c] = rows.at(row, c - 1) + 1;
                firstLine[c] = firstLine[c - 1] + nears[across[c]];
            }
        }

        /** DISTANCE of the row that is laid to another one; or the limit, if it is not below the limit. */
        int reach(Rows rows, int row, int limit) {
            int many = rows.length(row);
            int[] above = firstLine;
            low = 0;
            high = width;
            for (int i = 0; i < many; i++) {
                fillLine(above, rows.at(row, i) + 1, limit);
                if (high == NONE) {
                    return limit;
                }
                above = line;
            }
            return high == width ? Math.min(above[width], limit) : limit;
        }

        /**
         * Fills the line for one more SOUND; it may be the one above itself, as its corner is kept. Columns outside
         * low to high have reached the limit, and sums only grow on the way: they are left out. High is NONE
         * then if no column is below the limit.
         */
        private void fillLine(int[] above, int sound, int limit) {
            int base = sound * Costs.SIZE;
            int alone = nears[base];
            int corner = FAR;
            int left = FAR;
            int from = NONE;
            int to = NONE;
            for (int c = low; c <= width; c++) {
                int up = c <= high ? above[c] : FAR;
                int other = across[c];
                int beside = corner + nears[base + other];
                int sum = up + alone < beside ? up + alone : beside;
                left += nears[other];
                sum = left < sum ? left : sum;
                line[c] = sum;
                if (sum < limit) {
                    from = from == NONE ? c : from;
                    to = c;
                } else if (c > high) {
                    break;
                }
                corner = up;
                left = sum;
            }
            low = from;
            high = to;
        }
    }

    /**
     * The COMMANDS of the GRAMMAR, and the draft of the one that is being taken: what was added of it since
     * begin(). The COMMANDS stay as they are until the draft is known to have no FAULT. Of each SPELLING and POINT
     * of the draft it is kept within which POINT's which S it stands: that alone tells which of them a row of
     * PICKS comes by.
     */
    private static final class Grammar {
        private final Rows words = new Rows(MOST_WORDS, READ_SOUNDS);
        private final int[] wordPoint = new int[MOST_WORDS];
        private final int[] wordPart = new int[MOST_WORDS];
        private final int[] outerPoint = new int[MOST_POINTS];
        private final int[] outerPart = new int[MOST_POINTS];
        private final int[] parts = new int[MOST_POINTS];
        private final boolean[] optional = new boolean[MOST_POINTS];
        private final int[] now = new int[MOST_POINTS];
        private final int[] picks = new int[MOST_COMMANDS * MOST_POINTS];
        private final Rows commands = new Rows(MOST_COMMANDS, COMMAND_SOUNDS);
        private int wordCount;
        private int pointCount;
        private int size;
        private int points;

        /** An empty draft. */
        void begin() {
            wordCount = 0;
            pointCount = 0;
        }

        int size() {
            return size;
        }

        int points() {
            return points;
        }

        Rows commands() {
            return commands;
        }

        int picked(int k, int point) {
            return k >= 0 && k < size && point >= 0 && point < points ? picks[k * MOST_POINTS + point] : NONE;
        }

        private boolean hasPoint(int point) {
            return point >= 0 && point < pointCount;
        }

        boolean isOptional(int point) {
            return hasPoint(point) && optional[point];
        }

        int outer(int point) {
            return hasPoint(point) ? outerPoint[point] : NONE;
        }

        private int latestPart(int point) {
            return hasPoint(point) ? parts[point] - 1 : 0;
        }

        boolean addWord(Rows reading, int within) {
            if (wordCount >= MOST_WORDS) {
                return false;
            }
            words.copy(wordCount, reading, 0);
            wordPoint[wordCount] = within;
            wordPart[wordCount] = latestPart(within);
            wordCount++;
            return true;
        }

        /** The number of the new POINT; NONE: there are 8. */
        int addPoint(boolean mayBeNone, int within) {
            if (pointCount >= MOST_POINTS) {
                return NONE;
            }
            int point = pointCount;
            outerPoint[point] = within;
            outerPart[point] = latestPart(within);
            parts[point] = 1;
            optional[point] = mayBeNone;
            pointCount++;
            return point;
        }

        void addPart(int point) {
            if (hasPoint(point)) {
                parts[point]++;
            }
        }

        /** Takes the COMMANDS of the draft in the place of those ahead; or tells the FAULT behind all. */
        int takeCommands() {
            int fault = faultBehindAll();
            if (fault == NO_FAULT) {
                keepCommands();
            }
            return fault;
        }

        private int faultBehindAll() {
            boolean tooLong = false;
            boolean more = true;
            settleFrom(0);
            for (int seen = 0; seen < MOST_COMMANDS && more; seen++) {
                tooLong = tooLong || soundsNow() > COMMAND_SOUNDS;
                more = step();
            }
            if (more) {
                return FAULT_COMMANDS;
            }
            return tooLong ? FAULT_SOUNDS : NO_FAULT;
        }

        private void keepCommands() {
            boolean more = true;
            points = pointCount;
            settleFrom(0);
            for (size = 0; size < MOST_COMMANDS && more; size++) {
                System.arraycopy(now, 0, picks, size * MOST_POINTS, MOST_POINTS);
                joinWords(size);
                more = step();
            }
        }

        private boolean comesBy(int point, int part) {
            return !hasPoint(point) || now[point] == part;
        }

        private void settleFrom(int first) {
            for (int point = first; point < pointCount; point++) {
                now[point] = comesBy(outerPoint[point], outerPart[point]) ? 0 : NONE;
            }
        }

        /** Goes on to the next row of PICKS; false behind the last one. */
        private boolean step() {
            for (int point = pointCount - 1; point >= 0; point--) {
                int last = optional[point] ? parts[point] : parts[point] - 1;
                if (now[point] != NONE && now[point] < last) {
                    now[point]++;
                    settleFrom(point + 1);
                    return true;
                }
            }
            return false;
        }

        private int soundsNow() {
            int many = 0;
            for (int word = 0; word < wordCount; word++) {
                if (comesBy(wordPoint[word], wordPart[word])) {
                    many += words.length(word);
                }
            }
            return many;
        }

        private void joinWords(int command) {
            commands.clear(command);
            for (int word = 0; word < wordCount; word++) {
                if (comesBy(wordPoint[word], wordPart[word])) {
                    commands.join(command, words, word);
                }
            }
        }
    }

    /** Takes a text as a GRAMMAR, from the left on to its first FAULT. */
    private static final class Parser {
        private final Reader reader;
        private int open;
        private boolean empty;
        private int reached;

        Parser(Reader reader) {
            this.reader = reader;
        }

        /** Where the FAULT of the latest parse() is; without one, the text's length. */
        int reached() {
            return reached;
        }

        int parse(int[] text, int count, Grammar into) {
            into.begin();
            open = NONE;
            empty = true;
            reached = 0;
            int end = Math.min(count, text.length);
            while (reached < end) {
                int behind = behindLetters(text, reached, end);
                int fault = behind > reached ? takeSpelling(text, behind, into) : takeSign(text[reached], into);
                if (fault != NO_FAULT) {
                    return fault;
                }
                reached = Math.max(behind, reached + 1);
            }
            return empty || open != NONE ? FAULT_SIGN : NO_FAULT;
        }

        private static int behindLetters(int[] text, int from, int end) {
            int behind = from;
            while (behind < end && isLetter(text[behind])) {
                behind++;
            }
            return behind;
        }

        private int takeSpelling(int[] text, int behind, Grammar into) {
            if (behind - reached > SPELLING_LETTERS) {
                return FAULT_LETTERS;
            }
            if (reader.tryText(text, reached, behind - reached) < 0) {
                return FAULT_UNREAD;
            }
            empty = false;
            return into.addWord(reader.result(), open) ? NO_FAULT : FAULT_MANY;
        }

        private int takeSign(int sign, Grammar into) {
            switch (sign) {
                case ' ':
                    return NO_FAULT;
                case '(':
                    return takeOpening(false, into);
                case '[':
                    return takeOpening(true, into);
                case '|':
                    return takeBar(into);
                case ')':
                    return takeClosing(false, into);
                case ']':
                    return takeClosing(true, into);
                default:
                    return FAULT_SIGN;
            }
        }

        private int takeOpening(boolean mayBeNone, Grammar into) {
            int point = into.addPoint(mayBeNone, open);
            if (point == NONE) {
                return FAULT_MANY;
            }
            open = point;
            empty = true;
            return NO_FAULT;
        }

        private int takeBar(Grammar into) {
            if (open == NONE || empty) {
                return FAULT_SIGN;
            }
            into.addPart(open);
            empty = true;
            return NO_FAULT;
        }

        private int takeClosing(boolean mayBeNone, Grammar into) {
            if (open == NONE || empty || into.isOptional(open) != mayBeNone) {
                return FAULT_SIGN;
            }
            open = into.outer(open);
            return NO_FAULT;
        }
    }

    /** APART and the PAIR, kept until the GRAMMAR or a COST is another. */
    private static final class Nearest {
        private boolean known;
        private int edition;
        private int least = NONE;
        private int lower = NONE;
        private int upper = NONE;

        void forget() {
            known = false;
        }

        int least() {
            return least;
        }

        int lower() {
            return lower;
        }

        int upper() {
            return upper;
        }

        void find(Grammar grammar, Measure measure) {
            if (known && edition == measure.edition()) {
                return;
            }
            known = true;
            edition = measure.edition();
            least = FAR;
            lower = NONE;
            upper = NONE;
            for (int k = 0; k < grammar.size() && least > 0; k++) {
                compare(grammar, measure, k);
            }
            if (lower == NONE) {
                least = NONE;
            }
        }

        private void compare(Grammar grammar, Measure measure, int k) {
            Rows commands = grammar.commands();
            measure.lay(commands, k);
            for (int other = k + 1; other < grammar.size() && least > 0; other++) {
                int gap = measure.reach(commands, other, least);
                if (gap < least) {
                    least = gap;
                    lower = k;
                    upper = other;
                }
            }
        }
    }

    /** What the latest hear() told, as it was then. */
    private static final class Hearing {
        private final int[] again = new int[MOST_POINTS];
        private int againCount;
        private int first = NONE;
        private int firstGap = NONE;
        private int second = NONE;
        private int secondGap = NONE;

        void forget() {
            first = NONE;
            firstGap = NONE;
            second = NONE;
            secondGap = NONE;
            againCount = 0;
        }

        void listen(Grammar grammar, Rows row, Measure measure) {
            forget();
            measure.lay(row, 0);
            for (int k = 0; k < grammar.size(); k++) {
                // Behind SECOND's it is no matter how far.
                weigh(k, measure.reach(grammar.commands(), k, second == NONE ? FAR : secondGap));
            }
            if (second != NONE) {
                askAgain(grammar);
            }
        }

        private void weigh(int k, int gap) {
            if (first == NONE || gap < firstGap) {
                second = first;
                secondGap = firstGap;
                first = k;
                firstGap = gap;
            } else if (second == NONE || gap < secondGap) {
                second = k;
                secondGap = gap;
            }
        }

        private void askAgain(Grammar grammar) {
            for (int point = 0; point < grammar.points() && againCount < MOST_POINTS; point++) {
                if (grammar.picked(first, point) != grammar.picked(second, point)) {
                    again[againCount] = point;
                    againCount++;
                }
            }
        }

        int told(int what) {
            if (first == NONE) {
                return NONE;
            }
            switch (what) {
                case 0:
                    return first;
                case 1:
                    return firstGap;
                case 2:
                    return second;
                case 3:
                    return secondGap;
                case 4:
                    return second == NONE ? NONE : secondGap - firstGap;
                case 5:
                    return againCount;
                default:
                    return NONE;
            }
        }

        int asked(int k) {
            return k >= 0 && k < againCount ? again[k] : NONE;
        }
    }

    /** SLOTS and BEST, which is kept until a SLOT, a WORD or a COST is another. */
    private static final class Slots {
        private static final int MOST = MOST_SLOTS * SLOT_WORDS;

        private final Rows words = new Rows(MOST, READ_SOUNDS);
        private final int[] wordCounts = new int[MOST_SLOTS];
        private final int[] gaps = new int[MOST * MOST];
        private final int[] trial = new int[MOST_SLOTS];
        private final int[] choice = new int[MOST_SLOTS];
        private int size;
        private int worth = NONE;
        private boolean known;
        private int edition;

        int size() {
            return size;
        }

        /** The number of the new SLOT; NONE: there are 8. */
        int open() {
            if (size >= MOST_SLOTS) {
                return NONE;
            }
            known = false;
            size++;
            return size - 1;
        }

        int wordsOf(int slot) {
            return slot >= 0 && slot < size ? wordCounts[slot] : 0;
        }

        /** The number of the new WORD; NONE: there is no room for it. */
        int take(int slot, Rows reading) {
            if (slot < 0 || slot >= size || wordCounts[slot] >= SLOT_WORDS) {
                return NONE;
            }
            int word = wordCounts[slot];
            words.copy(slot * SLOT_WORDS + word, reading, 0);
            wordCounts[slot]++;
            known = false;
            return word;
        }

        int worth() {
            return worth;
        }

        int choiceOf(int slot) {
            return slot >= 0 && slot < size ? choice[slot] : NONE;
        }

        void choose(Measure measure) {
            if (known && edition == measure.edition()) {
                return;
            }
            known = true;
            edition = measure.edition();
            worth = NONE;
            Arrays.fill(choice, NONE);
            if (isReady()) {
                measureAll(measure);
                tryFrom(0, FAR);
            }
        }

        private boolean isReady() {
            for (int slot = 0; slot < size; slot++) {
                if (wordCounts[slot] == 0) {
                    return false;
                }
            }
            return size >= 2;
        }

        private void measureAll(Measure measure) {
            for (int slot = 1; slot < size; slot++) {
                for (int word = 0; word < wordCounts[slot]; word++) {
                    measureWord(slot, slot * SLOT_WORDS + word, measure);
                }
            }
        }

        private void measureWord(int slot, int one, Measure measure) {
            measure.lay(words, one);
            for (int before = 0; before < slot; before++) {
                for (int word = 0; word < wordCounts[before]; word++) {
                    int other = before * SLOT_WORDS + word;
                    gaps[one * MOST + other] = measure.reach(words, other, FAR);
                }
            }
        }

        /** Goes on only where the WORTH can still be greater, so that of equals the first one stays. */
        private void tryFrom(int slot, int least) {
            if (slot >= size) {
                worth = least;
                System.arraycopy(trial, 0, choice, 0, size);
                return;
            }
            for (int word = 0; word < wordCounts[slot]; word++) {
                int within = leastWith(slot, slot * SLOT_WORDS + word, least);
                if (within > worth) {
                    trial[slot] = word;
                    tryFrom(slot + 1, within);
                }
            }
        }

        private int leastWith(int slot, int one, int least) {
            int within = least;
            for (int before = 0; before < slot; before++) {
                int other = before * SLOT_WORDS + trial[before];
                within = Math.min(within, gaps[one * MOST + other]);
            }
            return within;
        }
    }
}
