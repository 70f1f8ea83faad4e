import java.util.Arrays;
import java.util.NoSuchElementException;

/** A court that hears scents alone. What the words in capitals mean is told in DOC.md. */
public final class ScentCourt {
    public static final int NONE = -1;

    // The most SCENTS, PLACES and WITNESSES there are; every row by one of them is as wide.
    private static final int WIDE = 6;
    private static final int SCENT = 0;
    private static final int PLACE = 1;
    private static final int WITNESS = 2;
    private static final int SMOKE = 3;
    private static final int WENT = 4;
    private static final int RAIN = 5;
    private static final int[] MOST_LINES = {6, 6, 6, 6, 20, 6};

    private static final int FULL = 99;
    private static final int WASHED_BY_RAIN = 2;
    private static final int TOLD_HOURS = 60;
    private static final int ONCE_HOURS = 60;
    private static final int LAST_HOUR = 999;
    private static final int CLOTHS = 8;
    private static final int BOXES = 3;
    private static final int ACTS = 8;
    private static final int IMAGES = 2;
    private static final int WAS_HOURS = 6;
    private static final int YEARS = 40;
    private static final int YEAR_HOURS = 20;
    private static final int WAYS = 40;

    private static final int TAPE_BYTES = 940;
    private static final int FEED_BYTES = 20;
    private static final int HILL_BYTES = 900;
    private static final int PLEAS_BYTES = 300;
    private static final int SENTENCE_BYTES = 200;
    private static final int WORD_LETTERS = 7;
    private static final int NUMBER_DIGITS = 3;
    private static final int PLEAS_LINES = 30;
    private static final int SENTENCE_ONES = 20;
    private static final int SENTENCE_DEPTH = 8;
    // Of each SCENT a NAME, a blank, two digits and a sign.
    private static final int WRITTEN_BYTES = WIDE * (WORD_LETTERS + 4);

    private static final int WRONG_TOKEN = 1;
    private static final int WRONG_NUMBER = 2;
    private static final int WRONG_NAME = 3;
    private static final int TOO_MANY = 4;

    // Kinds of tokens; a sign's kind is the sign, and no sign is as low as these.
    private static final int END = 0;
    private static final int BAD = 1;
    private static final int NAME = 2;
    private static final int NUMBER = 3;
    // A word that is no NAME has the kind KEY and its place in KEYS, where each takes seven
    // letters; the first six stand in the order of the sorts of LINES.
    private static final String KEYS = "scent  place  witnesssmoke  went   rain   at     smells wears  or     and    not    clean  own    sum    most   keep   ";
    private static final int KEY = 128;
    private static final int AT = KEY + 6;
    private static final int SMELLS = KEY + 7;
    private static final int WEARS = KEY + 8;
    private static final int OR = KEY + 9;
    private static final int AND = KEY + 10;
    private static final int NOT = KEY + 11;
    private static final int CLEAN = KEY + 12;
    private static final int OWN = KEY + 13;
    private static final int SUM = KEY + 14;
    private static final int MOST = KEY + 15;
    private static final int KEEP = KEY + 16;

    private final Tape tape;
    private final Hill hill;
    private final HillText hillText;
    private final World world;
    private final Sentence sentence;
    private final SentenceText sentenceText;
    private final Pleas pleas;

    private final World[] past;
    private int pastNext;
    private int pastCount;

    private final Hill[] keptHills;
    private final World[] keptWorlds;
    private final Sentence[] keptSentences;
    private final int[] kept;

    private final Noses noses;
    private final Was was;
    private final Changed changed;
    private final Draws draws;
    private final int[] text;
    private int textLength;

    public ScentCourt() {
        tape = new Tape();
        hill = new Hill();
        hillText = new HillText(tape);
        world = new World();
        sentence = new Sentence();
        sentenceText = new SentenceText(tape);
        pleas = new Pleas();
        past = new World[ACTS];
        for (int i = 0; i < past.length; i++) {
            past[i] = new World();
        }
        keptHills = new Hill[IMAGES];
        keptWorlds = new World[IMAGES];
        keptSentences = new Sentence[IMAGES];
        for (int k = 0; k < keptHills.length && k < keptWorlds.length && k < keptSentences.length; k++) {
            keptHills[k] = new Hill();
            keptWorlds[k] = new World();
            keptSentences[k] = new Sentence();
        }
        kept = new int[IMAGES];
        noses = new Noses();
        was = new Was();
        changed = new Changed();
        draws = new Draws();
        text = new int[WRITTEN_BYTES];
    }

    public int feed(int a, int b, int c, int d, int e) {
        if (tape.length + FEED_BYTES > TAPE_BYTES) {
            return NONE;
        }
        tape.addFour(a);
        tape.addFour(b);
        tape.addFour(c);
        tape.addFour(d);
        tape.addFour(e);
        return tape.length;
    }

    public boolean end(int n) {
        if (n < 0 || n > tape.length) {
            return false;
        }
        tape.length = n;
        return true;
    }

    public int hill() {
        int lines = hillText.read();
        tape.length = 0;
        if (tape.fault != 0) {
            return -1 - tape.faultPlace;
        }
        hill.copyFrom(hillText.draft);
        world.begin(hill);
        sentence.clear();
        forgetPast();
        return lines;
    }

    public int fault() {
        return tape.fault;
    }

    public int air(int place, int scent) throws NoSuchElementException {
        if (!hill.has(PLACE, place) || !hill.has(SCENT, scent)) {
            throw new NoSuchElementException();
        }
        return at(hill.air, place * WIDE + scent);
    }

    public int fade(int scent) {
        return hill.has(SCENT, scent) ? at(hill.fade, scent) : NONE;
    }

    public int witness(int w, int what) throws NoSuchElementException {
        if (!hill.has(WITNESS, w) || what < 0 || what > 4) {
            throw new NoSuchElementException();
        }
        switch (what) {
            case 0: return at(world.place, w);
            case 1: return at(world.worn, w);
            case 2: return at(hill.keep, w);
            case 3: return total(world.coats, at(world.worn, w));
            default: return strongest(world.coats, at(world.worn, w));
        }
    }

    public int coat(int w, int scent) {
        if (!hill.has(WITNESS, w) || !hill.has(SCENT, scent)) {
            return NONE;
        }
        return at(world.coats, w * WIDE + scent);
    }

    public int cloth(int c, int scent) {
        if (!world.hasCloth(c) || !hill.has(SCENT, scent)) {
            return NONE;
        }
        return at(world.cloth, c * WIDE + scent);
    }

    public int box(int c, int what) {
        if (!world.hasCloth(c)) {
            return NONE;
        }
        switch (what) {
            case 0: return at(world.cutFrom, c);
            case 1: return at(world.laidIn, c);
            case 2: return at(world.cutAt, c);
            case 3: return strongest(world.cloth, c);
            case 4: return total(world.cloth, c);
            default: return NONE;
        }
    }

    public boolean goes(int w, int place) {
        if (!hill.has(WITNESS, w) || !hill.has(PLACE, place)) {
            return false;
        }
        keepPast();
        put(world.place, w, place);
        return true;
    }

    public boolean change(int a, int b) {
        if (!hill.has(WITNESS, a) || !hill.has(WITNESS, b) || a == b) {
            return false;
        }
        keepPast();
        world.swap(a, b);
        return true;
    }

    public int soap(int w) {
        if (!hill.has(WITNESS, w)) {
            return NONE;
        }
        keepPast();
        return world.wash(at(world.worn, w));
    }

    public int send(int w, int box) {
        if (!hill.has(WITNESS, w) || !isBox(box) || world.cloths >= CLOTHS) {
            return NONE;
        }
        keepPast();
        return world.cut(at(world.worn, w), box);
    }

    public boolean move(int c, int box) {
        if (!world.hasCloth(c) || !isBox(box) || at(world.laidIn, c) == box) {
            return false;
        }
        keepPast();
        put(world.laidIn, c, box);
        return true;
    }

    public int on(int n) {
        if (!canPass(n)) {
            return NONE;
        }
        keepPast();
        for (int i = 0; i < n; i++) {
            world.passHour(hill, false);
        }
        return world.hour;
    }

    public int undo() {
        if (pastCount <= 0) {
            return NONE;
        }
        pastNext = (pastNext + ACTS - 1) % ACTS;
        pastCount--;
        if (pastNext >= 0 && pastNext < past.length && past[pastNext] != null) {
            world.copyFrom(past[pastNext]);
        }
        return pastCount;
    }

    public int order() {
        return noses.findOrder(world);
    }

    public int opened(int i) {
        return noses.foundAt(i);
    }

    public int noses() {
        return noses.fewest(world);
    }

    public int drowned() {
        int answer = noses.openRow(world, tape);
        tape.length = 0;
        return answer;
    }

    public int remains(int scent) {
        return noses.opened && hill.has(SCENT, scent) ? at(noses.left, scent) : NONE;
    }

    public int was(int w, int n) {
        int answer = NONE;
        if (hill.has(WITNESS, w) && n >= 1 && n <= WAS_HOURS && tape.length == at(hill.many, SCENT)) {
            answer = was.search(hill, tape, w, n);
        }
        tape.length = 0;
        return answer;
    }

    public int rows(int hour, int place) {
        if (hour < 1 || hour > was.hours || place < 0 || place >= was.places) {
            return NONE;
        }
        return at(was.rowsBy, hour * WIDE + place);
    }

    public int first(int hour) {
        return hour >= 1 && hour <= was.firstHours ? at(was.firstRow, hour) : NONE;
    }

    public int changed() {
        int answer = NONE;
        if (world.hour <= TOLD_HOURS && tape.length == at(hill.many, WITNESS) * at(hill.many, SCENT)) {
            answer = changed.search(hill, tape, world.hour);
        }
        tape.length = 0;
        return answer;
    }

    public int changeAt(int k) {
        return k >= 0 && k < changed.found && k < WAYS ? at(changed.ways, k) : NONE;
    }

    public int dog(int c) {
        if (!world.hasCloth(c)) {
            return NONE;
        }
        return leastUnlike(world.cloth, c, world.coats, at(hill.many, WITNESS));
    }

    public int unlike(int c, int w) {
        if (!world.hasCloth(c) || !hill.has(WITNESS, w)) {
            return NONE;
        }
        return difference(world.cloth, c, world.coats, w);
    }

    public int alike() {
        int best = NONE;
        int least = 0;
        for (int c = 0; c < world.cloths; c++) {
            for (int d = c + 1; d < world.cloths; d++) {
                int difference = difference(world.cloth, c, world.cloth, d);
                if (best == NONE || difference < least) {
                    best = 10 * c + d;
                    least = difference;
                }
            }
        }
        return best;
    }

    public int kitchen(int w) {
        if (!hill.has(WITNESS, w)) {
            return NONE;
        }
        int best = NONE;
        int most = 0;
        for (int p = 0; p < at(hill.many, PLACE); p++) {
            int gain = hill.gain(world.coats, at(world.worn, w), p);
            if (best == NONE || gain > most) {
                best = p;
                most = gain;
            }
        }
        return best;
    }

    public int thread(int c) {
        if (!world.hasCloth(c)) {
            return NONE;
        }
        return leastUnlike(world.cloth, c, hill.air, at(hill.many, PLACE));
    }

    public int source(int scent) {
        if (!hill.has(SCENT, scent)) {
            return NONE;
        }
        int best = NONE;
        int most = 0;
        for (int p = 0; p < at(hill.many, PLACE); p++) {
            int here = at(hill.air, p * WIDE + scent);
            if (here > most) {
                best = p;
                most = here;
            }
        }
        return best;
    }

    public int strangers() {
        // A ring of n that wear one another's COATS takes n - 1 CHANGES: all but one a ring.
        int changes = 0;
        int seen = 0;
        for (int w = 0; w < at(hill.many, WITNESS); w++) {
            int other = w;
            for (int i = 0; i < WIDE && (seen >> other & 1) == 0; i++) {
                seen |= 1 << other;
                other = at(world.worn, other);
                changes += other == w ? 0 : 1;
            }
        }
        return changes;
    }

    public int wearer(int coat) {
        for (int w = 0; w < at(hill.many, WITNESS); w++) {
            if (at(world.worn, w) == coat) {
                return w;
            }
        }
        return NONE;
    }

    public int clean(int c) {
        return world.hasCloth(c) ? world.hoursTillClean(hill, c) : NONE;
    }

    public int pleas() {
        pleas.read(tape, hill, world);
        tape.length = 0;
        return tape.fault != 0 ? -2 - tape.faultPlace : pleas.notSo;
    }

    public int drawn(int n, int seed) {
        if (!canPass(n) || !canDraw()) {
            return NONE;
        }
        keepPast();
        draws.passHours(hill, world, n, seed);
        return world.hour;
    }

    public int weather(int what) {
        if (!draws.drawn) {
            return NONE;
        }
        switch (what) {
            case 0: return draws.rains;
            case 1: return draws.changes;
            case 2: return draws.walks;
            default: return NONE;
        }
    }

    public int odds(int w, int n, int seed) {
        if (!hill.has(WITNESS, w) || n < 1 || n > YEARS || !canPass(YEAR_HOURS) || !canDraw()) {
            return NONE;
        }
        int years = 0;
        for (int i = 0; i < n; i++) {
            if (draws.endsInOwnCoat(hill, world, w, seed + i)) {
                years++;
            }
        }
        return years;
    }

    public int write(int w) {
        if (!hill.has(WITNESS, w)) {
            return NONE;
        }
        textLength = 0;
        for (int s = 0; s < WIDE; s++) {
            int much = at(world.coats, w * WIDE + s);
            if (much > 0) {
                writeName(hill.nameOf(SCENT, s));
                writeByte(' ');
                writeNumber(much);
                writeByte(';');
            }
        }
        return textLength;
    }

    public int byteAt(int i) {
        return i >= 0 && i < textLength ? at(text, i) : NONE;
    }

    public int sentence() {
        int ones = sentenceText.read(hill);
        tape.length = 0;
        if (tape.fault != 0) {
            return -1 - tape.faultPlace;
        }
        sentence.copyFrom(sentenceText.draft);
        return ones;
    }

    public int said(int k) {
        if (k < NONE || sentence.isEmpty()) {
            return NONE;
        }
        int count = 0;
        for (int w = 0; w < at(hill.many, WITNESS); w++) {
            if (sentence.isSaidOf(hill, world, w)) {
                if (count == k) {
                    return w;
                }
                count++;
            }
        }
        return k == NONE ? count : NONE;
    }

    public boolean image(int k) {
        if (!isImage(k)) {
            return false;
        }
        keptHills[k].copyFrom(hill);
        keptWorlds[k].copyFrom(world);
        keptSentences[k].copyFrom(sentence);
        put(kept, k, 1);
        return true;
    }

    public boolean restore(int k) {
        if (!isImage(k) || at(kept, k) == 0) {
            return false;
        }
        hill.copyFrom(keptHills[k]);
        world.copyFrom(keptWorlds[k]);
        sentence.copyFrom(keptSentences[k]);
        forgetPast();
        return true;
    }

    public int count(int what) {
        switch (what) {
            case 0: return at(hill.many, SCENT);
            case 1: return at(hill.many, PLACE);
            case 2: return at(hill.many, WITNESS);
            case 3: return at(hill.many, SMOKE);
            case 4: return world.hour;
            case 5: return world.cloths;
            case 6: return tape.length;
            default: return NONE;
        }
    }

    private void keepPast() {
        if (pastNext >= 0 && pastNext < past.length && past[pastNext] != null) {
            past[pastNext].copyFrom(world);
        }
        pastNext = (pastNext + 1) % ACTS;
        pastCount = Math.min(ACTS, pastCount + 1);
    }

    private void forgetPast() {
        pastCount = 0;
    }

    private boolean canPass(int hours) {
        return hours >= 1 && hours <= ONCE_HOURS && world.hour + hours <= LAST_HOUR;
    }

    private boolean canDraw() {
        return at(hill.many, WITNESS) > 0 && at(hill.many, PLACE) > 0;
    }

    private static boolean isBox(int box) {
        return box >= 0 && box < BOXES;
    }

    private boolean isImage(int k) {
        return k >= 0 && k < keptHills.length && k < keptWorlds.length && k < keptSentences.length
                && keptHills[k] != null && keptWorlds[k] != null && keptSentences[k] != null;
    }

    private void writeByte(int sign) {
        put(text, textLength, sign);
        textLength = Math.min(text.length, textLength + 1);
    }

    private void writeName(long name) {
        for (int i = WORD_LETTERS - 1; i >= 0; i--) {
            int letter = (int) (name >>> 8 * i & 255);
            if (letter != 0) {
                writeByte(letter);
            }
        }
    }

    private void writeNumber(int number) {
        if (number >= 10) {
            writeByte('0' + number / 10 % 10);
        }
        writeByte('0' + number % 10);
    }

    private static int at(int[] row, int i) {
        return i >= 0 && i < row.length ? row[i] : 0;
    }

    private static void put(int[] row, int i, int value) {
        if (i >= 0 && i < row.length) {
            row[i] = value;
        }
    }

    private static void copy(int[] from, int[] to) {
        System.arraycopy(from, 0, to, 0, Math.min(from.length, to.length));
    }

    private static int total(int[] rows, int row) {
        int total = 0;
        for (int s = 0; s < WIDE; s++) {
            total += at(rows, row * WIDE + s);
        }
        return total;
    }

    private static int strongest(int[] rows, int row) {
        int best = NONE;
        int most = 0;
        for (int s = 0; s < WIDE; s++) {
            int much = at(rows, row * WIDE + s);
            if (much > most) {
                best = s;
                most = much;
            }
        }
        return best;
    }

    private static int difference(int[] rows, int row, int[] others, int other) {
        int difference = 0;
        for (int s = 0; s < WIDE; s++) {
            difference += Math.abs(at(rows, row * WIDE + s) - at(others, other * WIDE + s));
        }
        return difference;
    }

    private static int leastUnlike(int[] rows, int row, int[] others, int count) {
        int best = NONE;
        int least = 0;
        for (int other = 0; other < count; other++) {
            int difference = difference(rows, row, others, other);
            if (best == NONE || difference < least) {
                best = other;
                least = difference;
            }
        }
        return best;
    }

    /** The tape, and the tokens of the text on it with its first FAULT. */
    private static final class Tape {
        final int[] bytes = new int[TAPE_BYTES];
        int length;
        int fault;
        int faultPlace;

        private final long[] keys = new long[KEYS.length() / WORD_LETTERS];
        // All tokens are read ahead of what they tell: one that can't be ends their row.
        private final int[] kinds = new int[TAPE_BYTES + 1];
        private final int[] places = new int[TAPE_BYTES + 1];
        // What a WORD's letters or a NUMBER come to.
        private final long[] contents = new long[TAPE_BYTES + 1];
        private int count;

        private int current;
        int kind;
        // Of the NAME or NUMBER that was taken last.
        int value;

        Tape() {
            for (int k = 0; k < keys.length; k++) {
                keys[k] = keyWord(k);
            }
        }

        void addFour(int four) {
            for (int shift = 24; shift >= 0; shift -= 8) {
                put(bytes, length, four >>> shift & 255);
                length = Math.min(bytes.length, length + 1);
            }
        }

        void begin(int mostBytes) {
            fault = 0;
            faultPlace = 0;
            count = 0;
            int next = 0;
            for (int i = 0; i <= TAPE_BYTES; i++) {
                next = readToken(next, mostBytes);
                int latest = at(kinds, i);
                if (latest == END || latest == BAD) {
                    break;
                }
            }
            current = 0;
            kind = at(kinds, 0);
        }

        private int readToken(int from, int mostBytes) {
            int start = from;
            while (start < length && isBlank(at(bytes, start))) {
                start++;
            }
            int sign = at(bytes, start);
            if (length > mostBytes && start >= mostBytes) {
                addToken(BAD, mostBytes, 0);
            } else if (start >= length) {
                addToken(END, start, 0);
            } else if (isLetter(sign) || isDigit(sign)) {
                return readRun(start);
            } else {
                addToken(isSign(sign) ? sign : BAD, start, 0);
            }
            return start + 1;
        }

        private int readRun(int start) {
            int end = start;
            int letters = 0;
            long word = 0;
            long number = 0;
            for (; end < length; end++) {
                int sign = at(bytes, end);
                if (isLetter(sign)) {
                    letters++;
                    word = word << 8 | sign;
                } else if (isDigit(sign)) {
                    number = number * 10 + sign - '0';
                } else {
                    break;
                }
            }
            if (letters == end - start && letters <= WORD_LETTERS) {
                addToken(kindOfWord(word), start, word);
            } else {
                boolean isNumber = letters == 0 && end - start <= NUMBER_DIGITS;
                addToken(isNumber ? NUMBER : BAD, start, number);
            }
            return end;
        }

        private void addToken(int tokenKind, int place, long content) {
            put(kinds, count, tokenKind);
            put(places, count, place);
            if (count >= 0 && count < contents.length) {
                contents[count] = content;
                count++;
            }
        }

        private int kindOfWord(long word) {
            for (int k = 0; k < keys.length; k++) {
                if (word == keys[k]) {
                    return KEY + k;
                }
            }
            return NAME;
        }

        private static long keyWord(int k) {
            long word = 0;
            for (int i = k * WORD_LETTERS; i < (k + 1) * WORD_LETTERS; i++) {
                if (i >= 0 && i < KEYS.length() && KEYS.charAt(i) != ' ') {
                    word = word << 8 | KEYS.charAt(i);
                }
            }
            return word;
        }

        private static boolean isBlank(int sign) {
            return sign == 32 || sign == 10;
        }

        private static boolean isLetter(int sign) {
            return sign >= 'a' && sign <= 'z';
        }

        private static boolean isDigit(int sign) {
            return sign >= '0' && sign <= '9';
        }

        private static boolean isSign(int sign) {
            return sign == ';' || sign == '<' || sign == '=' || sign == '>' || sign == '(' || sign == ')';
        }

        void step() {
            current = Math.min(current + 1, TAPE_BYTES);
            kind = at(kinds, current);
        }

        private long content() {
            return current >= 0 && current < contents.length ? contents[current] : 0;
        }

        boolean fail(int wrong) {
            fault = wrong;
            faultPlace = at(places, current);
            return false;
        }

        boolean failAtTaken(int wrong) {
            fault = wrong;
            faultPlace = at(places, current - 1);
            return false;
        }

        boolean take(int due) {
            if (kind != due) {
                return fail(WRONG_TOKEN);
            }
            step();
            return true;
        }

        boolean takeNumber(int least, int most) {
            if (kind != NUMBER) {
                return fail(WRONG_TOKEN);
            }
            int number = (int) content();
            if (number < least || number > most) {
                return fail(WRONG_NUMBER);
            }
            value = number;
            step();
            return true;
        }

        boolean takeTold(Hill hill, int sort) {
            if (kind != NAME) {
                return fail(WRONG_TOKEN);
            }
            int told = hill.numberOf(sort, content());
            if (told == NONE) {
                return fail(WRONG_NAME);
            }
            value = told;
            step();
            return true;
        }

        boolean takeNew(Hill hill, int sort) {
            if (kind != NAME) {
                return fail(WRONG_TOKEN);
            }
            if (hill.isTold(content())) {
                return fail(WRONG_NAME);
            }
            value = hill.tell(sort, content());
            step();
            return true;
        }
    }

    /** What a HILL tells. */
    private static final class Hill {
        // Of each sort of LINE.
        final int[] many = new int[MOST_LINES.length];
        private final long[] names = new long[3 * WIDE];
        final int[] fade = new int[WIDE];
        // By PLACE and SCENT.
        final int[] air = new int[WIDE * WIDE];
        final int[] keep = new int[WIDE];
        final int[] start = new int[WIDE];
        // By HOUR and WITNESS the PLACE and 1; 0 where none is told.
        final int[] went = new int[(TOLD_HOURS + 1) * WIDE];
        final int[] rain = new int[TOLD_HOURS + 1];

        void clear() {
            Arrays.fill(many, 0);
            Arrays.fill(names, 0);
            Arrays.fill(fade, 0);
            Arrays.fill(air, 0);
            Arrays.fill(keep, 0);
            Arrays.fill(start, 0);
            Arrays.fill(went, 0);
            Arrays.fill(rain, 0);
        }

        void copyFrom(Hill other) {
            copy(other.many, many);
            System.arraycopy(other.names, 0, names, 0, Math.min(other.names.length, names.length));
            copy(other.fade, fade);
            copy(other.air, air);
            copy(other.keep, keep);
            copy(other.start, start);
            copy(other.went, went);
            copy(other.rain, rain);
        }

        boolean has(int sort, int number) {
            return number >= 0 && number < at(many, sort);
        }

        long nameOf(int sort, int number) {
            int i = sort * WIDE + number;
            return i >= 0 && i < names.length ? names[i] : 0;
        }

        int numberOf(int sort, long name) {
            int start = sort * WIDE;
            for (int i = 0; i < WIDE; i++) {
                if (start + i >= 0 && start + i < names.length && names[start + i] == name) {
                    return i;
                }
            }
            return NONE;
        }

        boolean isTold(long name) {
            return numberOf(SCENT, name) != NONE || numberOf(PLACE, name) != NONE
                    || numberOf(WITNESS, name) != NONE;
        }

        int tell(int sort, long name) {
            int number = at(many, sort);
            int i = sort * WIDE + number;
            if (i >= 0 && i < names.length) {
                names[i] = name;
            }
            put(many, sort, number + 1);
            return number;
        }

        int wentTo(int w, int hour) {
            return at(went, hour * WIDE + w) - 1;
        }

        boolean isRainTold(int hour) {
            return at(rain, hour) != 0;
        }

        /** Whether what has the KEEP of a COAT fades at an HOUR. */
        boolean fades(int coat, int hour) {
            int hours = at(keep, coat);
            return hours > 0 && hour % hours == 0;
        }

        /** An HOUR for the row in which a COAT's SCENTS stand. */
        void passHour(int[] rows, int row, int coat, int hour, boolean rains, int place) {
            boolean fades = fades(coat, hour);
            for (int s = 0; s < WIDE; s++) {
                int i = row * WIDE + s;
                int gone = (fades ? at(fade, s) : 0) + (rains ? WASHED_BY_RAIN : 0);
                int left = Math.max(0, at(rows, i) - gone);
                put(rows, i, Math.min(FULL, left + at(air, place * WIDE + s)));
            }
        }

        int gain(int[] rows, int row, int place) {
            int gain = 0;
            for (int s = 0; s < WIDE; s++) {
                int much = at(rows, row * WIDE + s);
                gain += Math.min(FULL, much + at(air, place * WIDE + s)) - much;
            }
            return gain;
        }
    }

    /** Reads a HILL from the tape into a draft, so that a FAULT leaves the HILL as it is. */
    private static final class HillText {
        private final Tape tape;
        final Hill draft = new Hill();
        // By PLACE and SCENT: what smoke is half of, whatever smoke comes there.
        private final int[] told = new int[WIDE * WIDE];
        // 1 by SCENT, from where and to where.
        private final int[] smoke = new int[WIDE * WIDE * WIDE];

        HillText(Tape tape) {
            this.tape = tape;
        }

        int read() {
            draft.clear();
            Arrays.fill(told, 0);
            Arrays.fill(smoke, 0);
            tape.begin(HILL_BYTES);
            for (int lines = 0; lines < TAPE_BYTES; lines++) {
                if (tape.kind == END) {
                    return lines;
                }
                if (!readLine() || !tape.take(';')) {
                    return NONE;
                }
            }
            return NONE;
        }

        private boolean readLine() {
            int sort = tape.kind - KEY;
            if (sort < SCENT || sort > RAIN) {
                return tape.fail(WRONG_TOKEN);
            }
            if (at(draft.many, sort) >= at(MOST_LINES, sort)) {
                return tape.fail(TOO_MANY);
            }
            tape.step();
            switch (sort) {
                case SCENT: return readScent();
                case PLACE: return readPlace();
                case WITNESS: return readWitness();
                case SMOKE: return readSmoke();
                case WENT: return readWent();
                default: return readRain();
            }
        }

        private boolean readScent() {
            if (!tape.takeNew(draft, SCENT)) {
                return false;
            }
            int scent = tape.value;
            if (!tape.takeNumber(0, 9)) {
                return false;
            }
            put(draft.fade, scent, tape.value);
            return true;
        }

        private boolean readPlace() {
            if (!tape.takeNew(draft, PLACE)) {
                return false;
            }
            int place = tape.value;
            for (int i = 0; i <= WIDE && tape.kind != ';'; i++) {
                if (!readSmell(place)) {
                    return false;
                }
            }
            return true;
        }

        private boolean readSmell(int place) {
            if (!tape.takeTold(draft, SCENT)) {
                return false;
            }
            int i = place * WIDE + tape.value;
            if (at(told, i) != 0) {
                return tape.failAtTaken(WRONG_NAME);
            }
            if (!tape.takeNumber(1, 9)) {
                return false;
            }
            put(told, i, tape.value);
            put(draft.air, i, tape.value);
            return true;
        }

        private boolean readWitness() {
            if (!tape.takeNew(draft, WITNESS)) {
                return false;
            }
            int w = tape.value;
            if (!tape.takeNumber(1, 9)) {
                return false;
            }
            put(draft.keep, w, tape.value);
            if (!tape.takeTold(draft, PLACE)) {
                return false;
            }
            put(draft.start, w, tape.value);
            return true;
        }

        private boolean readSmoke() {
            if (!tape.takeTold(draft, SCENT)) {
                return false;
            }
            int scent = tape.value;
            if (!tape.takeTold(draft, PLACE)) {
                return false;
            }
            int from = tape.value;
            if (!tape.takeTold(draft, PLACE)) {
                return false;
            }
            int to = tape.value;
            int i = (scent * WIDE + from) * WIDE + to;
            if (from == to || at(smoke, i) != 0) {
                return tape.failAtTaken(WRONG_NAME);
            }
            put(smoke, i, 1);
            int blown = to * WIDE + scent;
            put(draft.air, blown, at(draft.air, blown) + at(told, from * WIDE + scent) / 2);
            return addLine(SMOKE);
        }

        private boolean readWent() {
            if (!tape.takeTold(draft, WITNESS)) {
                return false;
            }
            int w = tape.value;
            if (!tape.takeNumber(1, TOLD_HOURS)) {
                return false;
            }
            int i = tape.value * WIDE + w;
            if (at(draft.went, i) != 0) {
                return tape.failAtTaken(WRONG_NAME);
            }
            if (!tape.takeTold(draft, PLACE)) {
                return false;
            }
            put(draft.went, i, tape.value + 1);
            return addLine(WENT);
        }

        private boolean readRain() {
            if (!tape.takeNumber(1, TOLD_HOURS)) {
                return false;
            }
            if (at(draft.rain, tape.value) != 0) {
                return tape.failAtTaken(WRONG_NAME);
            }
            put(draft.rain, tape.value, 1);
            return addLine(RAIN);
        }

        private boolean addLine(int sort) {
            put(draft.many, sort, at(draft.many, sort) + 1);
            return true;
        }
    }

    /** How it stands at an HOUR: all that acts alter. */
    private static final class World {
        int hour;
        // By WITNESS; worn is whose COAT.
        final int[] place = new int[WIDE];
        final int[] worn = new int[WIDE];
        // By COAT and SCENT.
        final int[] coats = new int[WIDE * WIDE];
        int cloths;
        // By CLOTH and SCENT, and by CLOTH.
        final int[] cloth = new int[CLOTHS * WIDE];
        final int[] cutFrom = new int[CLOTHS];
        final int[] laidIn = new int[CLOTHS];
        final int[] cutAt = new int[CLOTHS];

        void begin(Hill hill) {
            hour = 0;
            cloths = 0;
            copy(hill.start, place);
            for (int w = 0; w < worn.length; w++) {
                worn[w] = w;
            }
            Arrays.fill(coats, 0);
        }

        void copyFrom(World other) {
            hour = other.hour;
            cloths = other.cloths;
            copy(other.place, place);
            copy(other.worn, worn);
            copy(other.coats, coats);
            copy(other.cloth, cloth);
            copy(other.cutFrom, cutFrom);
            copy(other.laidIn, laidIn);
            copy(other.cutAt, cutAt);
        }

        boolean hasCloth(int c) {
            return c >= 0 && c < cloths;
        }

        void swap(int a, int b) {
            int coat = at(worn, a);
            put(worn, a, at(worn, b));
            put(worn, b, coat);
        }

        int wash(int coat) {
            int taken = total(coats, coat);
            for (int s = 0; s < WIDE; s++) {
                put(coats, coat * WIDE + s, 0);
            }
            return taken;
        }

        int cut(int coat, int box) {
            int c = cloths;
            for (int s = 0; s < WIDE; s++) {
                put(cloth, c * WIDE + s, at(coats, coat * WIDE + s));
            }
            put(cutFrom, c, coat);
            put(laidIn, c, box);
            put(cutAt, c, hour);
            cloths = Math.min(CLOTHS, cloths + 1);
            return c;
        }

        void passHour(Hill hill, boolean rainDrawn) {
            hour++;
            boolean rains = rainDrawn || hill.isRainTold(hour);
            for (int w = 0; w < at(hill.many, WITNESS); w++) {
                if (hill.wentTo(w, hour) != NONE) {
                    put(place, w, hill.wentTo(w, hour));
                }
                int coat = at(worn, w);
                hill.passHour(coats, coat, coat, hour, rains, at(place, w));
            }
            for (int c = 0; c < cloths; c++) {
                if (hill.fades(at(cutFrom, c), hour)) {
                    fadeCloth(hill, c);
                }
            }
            for (int box = 0; box < BOXES; box++) {
                for (int s = 0; s < WIDE; s++) {
                    mingle(box, s);
                }
            }
        }

        private void fadeCloth(Hill hill, int c) {
            for (int s = 0; s < WIDE; s++) {
                int i = c * WIDE + s;
                put(cloth, i, Math.max(0, at(cloth, i) - at(hill.fade, s)));
            }
        }

        private void mingle(int box, int scent) {
            int greatest = 0;
            for (int c = 0; c < cloths; c++) {
                if (at(laidIn, c) == box) {
                    greatest = Math.max(greatest, at(cloth, c * WIDE + scent));
                }
            }
            for (int c = 0; c < cloths; c++) {
                int i = c * WIDE + scent;
                if (at(laidIn, c) == box && at(cloth, i) < greatest) {
                    put(cloth, i, at(cloth, i) + 1);
                }
            }
        }

        int hoursTillClean(Hill hill, int c) {
            int keep = at(hill.keep, at(cutFrom, c));
            if (keep <= 0) {
                return NONE;
            }
            int longest = 0;
            for (int s = 0; s < WIDE; s++) {
                int much = at(cloth, c * WIDE + s);
                int fade = at(hill.fade, s);
                if (much > 0) {
                    if (fade <= 0) {
                        return NONE;
                    }
                    int times = (much + fade - 1) / fade;
                    longest = Math.max(longest, (hour / keep + times) * keep - hour);
                }
            }
            return longest;
        }
    }

    /** Judges the PLEAS on the tape while it reads them. */
    private static final class Pleas {
        int notSo = NONE;

        void read(Tape tape, Hill hill, World world) {
            notSo = NONE;
            tape.begin(PLEAS_BYTES);
            for (int line = 0; line <= PLEAS_LINES && tape.kind != END; line++) {
                if (!readLine(tape, hill, world, line)) {
                    return;
                }
            }
        }

        private boolean readLine(Tape tape, Hill hill, World world, int line) {
            if (!tape.takeTold(hill, WITNESS)) {
                return false;
            }
            if (line >= PLEAS_LINES) {
                return tape.failAtTaken(TOO_MANY);
            }
            int w = tape.value;
            int claim = tape.kind;
            if (claim != AT && claim != SMELLS && claim != WEARS) {
                return tape.fail(WRONG_TOKEN);
            }
            tape.step();
            if (!tape.takeTold(hill, sortOf(claim))) {
                return false;
            }
            if (notSo == NONE && !isSo(world, w, claim, tape.value)) {
                notSo = line;
            }
            return tape.take(';');
        }

        private static int sortOf(int claim) {
            if (claim == AT) {
                return PLACE;
            }
            return claim == SMELLS ? SCENT : WITNESS;
        }

        private static boolean isSo(World world, int w, int claim, int what) {
            if (claim == AT) {
                return at(world.place, w) == what;
            }
            int coat = at(world.worn, w);
            return claim == SMELLS ? at(world.coats, coat * WIDE + what) > 0 : coat == what;
        }
    }

    /** A SENTENCE as a row of steps, each behind those of its parts. */
    private static final class Sentence {
        // Every ONE is a step but brackets; between ONES there is one less of 'and' and 'or'.
        private final int[] steps = new int[2 * SENTENCE_ONES];
        private final int[] signs = new int[2 * SENTENCE_ONES];
        private final int[] numbers = new int[2 * SENTENCE_ONES];
        private int length;

        void clear() {
            length = 0;
        }

        boolean isEmpty() {
            return length == 0;
        }

        void copyFrom(Sentence other) {
            length = other.length;
            copy(other.steps, steps);
            copy(other.signs, signs);
            copy(other.numbers, numbers);
        }

        void add(int step, int sign, int number) {
            put(steps, length, step);
            put(signs, length, sign);
            put(numbers, length, number);
            length = Math.min(steps.length, length + 1);
        }

        boolean isSaidOf(Hill hill, World world, int w) {
            // Answers wait as bits, the latest lowest.
            long answers = 0;
            for (int i = 0; i < length; i++) {
                int step = at(steps, i);
                long latest = answers & 1;
                if (step == NOT) {
                    answers ^= 1;
                } else if (step == AND) {
                    answers = answers >>> 1 & (~1L | latest);
                } else if (step == OR) {
                    answers = answers >>> 1 | latest;
                } else {
                    answers = answers << 1 | (holds(hill, world, w, i) ? 1 : 0);
                }
            }
            return (answers & 1) == 1;
        }

        private boolean holds(Hill hill, World world, int w, int i) {
            int coat = at(world.worn, w);
            int number = at(numbers, i);
            switch (at(steps, i)) {
                case CLEAN: return total(world.coats, coat) == 0;
                case OWN: return coat == w;
                case AT: return at(world.place, w) == number;
                case SMELLS: return at(world.coats, coat * WIDE + number) > 0;
                case SUM: return compares(total(world.coats, coat), at(signs, i), number);
                case MOST: return compares(most(world, coat), at(signs, i), number);
                default: return compares(at(hill.keep, coat), at(signs, i), number);
            }
        }

        private static int most(World world, int coat) {
            int scent = strongest(world.coats, coat);
            return scent == NONE ? 0 : at(world.coats, coat * WIDE + scent);
        }

        private static boolean compares(int much, int sign, int number) {
            if (sign == '<') {
                return much < number;
            }
            return sign == '>' ? much > number : much == number;
        }
    }

    /** Reads a SENTENCE from the tape into a draft, so that a FAULT leaves the SENTENCE as it is. */
    private static final class SentenceText {
        private final Tape tape;
        final Sentence draft = new Sentence();
        private int ones;

        SentenceText(Tape tape) {
            this.tape = tape;
        }

        int read(Hill hill) {
            draft.clear();
            ones = 0;
            tape.begin(SENTENCE_BYTES);
            if (!readCond(hill, 1)) {
                return NONE;
            }
            if (tape.kind != END) {
                tape.fail(WRONG_TOKEN);
                return NONE;
            }
            return ones;
        }

        private boolean readCond(Hill hill, int depth) {
            if (!readAll(hill, depth)) {
                return false;
            }
            for (int i = 0; i < TAPE_BYTES && tape.kind == OR; i++) {
                tape.step();
                if (!readAll(hill, depth)) {
                    return false;
                }
                draft.add(OR, 0, 0);
            }
            return true;
        }

        private boolean readAll(Hill hill, int depth) {
            if (!readOne(hill, depth)) {
                return false;
            }
            for (int i = 0; i < TAPE_BYTES && tape.kind == AND; i++) {
                tape.step();
                if (!readOne(hill, depth)) {
                    return false;
                }
                draft.add(AND, 0, 0);
            }
            return true;
        }

        private boolean readOne(Hill hill, int depth) {
            int kind = tape.kind;
            if (!beginsOne(kind)) {
                return tape.fail(WRONG_TOKEN);
            }
            if (ones >= SENTENCE_ONES || depth > SENTENCE_DEPTH) {
                return tape.fail(TOO_MANY);
            }
            ones++;
            tape.step();
            return readInside(hill, kind, depth + 1);
        }

        private boolean readInside(Hill hill, int kind, int depth) {
            switch (kind) {
                case '(': return readCond(hill, depth) && tape.take(')');
                case NOT: return readOne(hill, depth) && added(NOT, 0, 0);
                case AT: return tape.takeTold(hill, PLACE) && added(AT, 0, tape.value);
                case SMELLS: return tape.takeTold(hill, SCENT) && added(SMELLS, 0, tape.value);
                case CLEAN:
                case OWN: return added(kind, 0, 0);
                default: return readMeasure(kind);
            }
        }

        private static boolean beginsOne(int kind) {
            return kind == '(' || kind == AT || kind == SMELLS || kind >= NOT && kind <= KEEP;
        }

        private boolean readMeasure(int measure) {
            int sign = tape.kind;
            if (sign != '<' && sign != '=' && sign != '>') {
                return tape.fail(WRONG_TOKEN);
            }
            tape.step();
            return tape.takeNumber(0, 999) && added(measure, sign, tape.value);
        }

        private boolean added(int step, int sign, int number) {
            draft.add(step, sign, number);
            return true;
        }
    }

    /** CLOTHS opened one after another. */
    private static final class Noses {
        // What REMAINS behind the latest row of the tape.
        final int[] left = new int[WIDE];
        boolean opened;

        private int foundCount;
        private final int[] foundOrder = new int[CLOTHS];
        // By CLOTH its strongest SCENT.
        private final int[] strongestOf = new int[CLOTHS];
        // The row that is tried, and what REMAINS ahead of each of its CLOTHS: ahead of the first nothing.
        private final int[] tried = new int[CLOTHS];
        private final int[] leftAhead = new int[(CLOTHS + 1) * WIDE];
        // By sets of CLOTHS as bits: 1 if one NOSE can open it; the fewest NOSES.
        private final int[] byOneNose = new int[1 << CLOTHS];
        private final int[] fewestNoses = new int[1 << CLOTHS];

        int findOrder(World world) {
            if (isAnyClean(world) || !canOneNose(world)) {
                return NONE;
            }
            foundCount = world.cloths;
            copy(tried, foundOrder);
            return foundCount;
        }

        int foundAt(int i) {
            return i >= 0 && i < foundCount ? at(foundOrder, i) : NONE;
        }

        int fewest(World world) {
            if (isAnyClean(world)) {
                return NONE;
            }
            if (canOneNose(world)) {
                return Math.min(world.cloths, 1);
            }
            int all = (1 << world.cloths) - 1;
            for (int set = 1; set <= all; set++) {
                share(set);
            }
            return at(fewestNoses, all);
        }

        private static boolean isAnyClean(World world) {
            for (int c = 0; c < world.cloths; c++) {
                if (strongest(world.cloth, c) == NONE) {
                    return true;
                }
            }
            return false;
        }

        private void share(int set) {
            int best = CLOTHS;
            for (int part = 1; part <= set; part++) {
                if ((part & ~set) == 0 && at(byOneNose, part) == 1) {
                    best = Math.min(best, at(fewestNoses, set ^ part) + 1);
                }
            }
            put(fewestNoses, set, best);
        }

        int openRow(World world, Tape tape) {
            if (!isRowTold(world, tape)) {
                return -2;
            }
            Arrays.fill(left, 0);
            int answer = NONE;
            for (int i = 0; i < tape.length; i++) {
                int c = at(tape.bytes, i);
                if (answer == NONE && isDrowned(world, c, strongest(world.cloth, c), left, 0)) {
                    answer = i;
                }
                open(world, c, left, 0, 0);
            }
            opened = true;
            return answer;
        }

        private static boolean isRowTold(World world, Tape tape) {
            int seen = 0;
            for (int i = 0; i < tape.length; i++) {
                int c = at(tape.bytes, i);
                if (!world.hasCloth(c) || (seen >> c & 1) == 1) {
                    return false;
                }
                seen |= 1 << c;
            }
            return tape.length >= 1;
        }

        /** Whether one NOSE can open all CLOTHS; if not, every set that one can open is marked. */
        private boolean canOneNose(World world) {
            Arrays.fill(byOneNose, 0);
            for (int c = 0; c < world.cloths; c++) {
                put(strongestOf, c, strongest(world.cloth, c));
            }
            return tryNext(world, 0, 0);
        }

        private boolean tryNext(World world, int depth, int set) {
            put(byOneNose, set, 1);
            if (depth >= world.cloths || depth >= CLOTHS) {
                return true;
            }
            for (int c = 0; c < world.cloths; c++) {
                if ((set >> c & 1) == 0 && tryCloth(world, depth, set, c)) {
                    return true;
                }
            }
            return false;
        }

        private boolean tryCloth(World world, int depth, int set, int c) {
            if (isDrowned(world, c, at(strongestOf, c), leftAhead, depth)) {
                return false;
            }
            put(tried, depth, c);
            open(world, c, leftAhead, depth, depth + 1);
            return tryNext(world, depth + 1, set | 1 << c);
        }

        private static boolean isDrowned(World world, int c, int scent, int[] remains, int row) {
            return scent == NONE || at(remains, row * WIDE + scent) >= at(world.cloth, c * WIDE + scent);
        }

        private static void open(World world, int c, int[] remains, int row, int behind) {
            for (int s = 0; s < WIDE; s++) {
                int half = at(remains, row * WIDE + s) / 2;
                put(remains, behind * WIDE + s, Math.max(half, at(world.cloth, c * WIDE + s)));
            }
        }
    }

    /** WAS: where a WITNESS can have been. */
    private static final class Was {
        int hours;
        int places;
        // By HOUR and PLACE.
        final int[] rowsBy = new int[(WAS_HOURS + 1) * WIDE];
        int firstHours;
        final int[] firstRow = new int[WAS_HOURS + 1];

        private int found;
        private final int[] told = new int[WIDE];
        // By SCENT the most that the AIR of a PLACE has.
        private final int[] mostAir = new int[WIDE];
        private final int[] row = new int[WAS_HOURS + 1];
        // What the COAT has behind each HOUR of the row: at HOUR 0 nothing.
        private final int[] coatBehind = new int[(WAS_HOURS + 1) * WIDE];

        int search(Hill hill, Tape tape, int w, int n) {
            hours = n;
            places = at(hill.many, PLACE);
            found = 0;
            for (int s = 0; s < WIDE; s++) {
                put(told, s, s < tape.length ? at(tape.bytes, s) : 0);
            }
            findMostAir(hill);
            Arrays.fill(rowsBy, 0);
            tryHour(hill, w, 1);
            return found;
        }

        private void findMostAir(Hill hill) {
            Arrays.fill(mostAir, 0);
            for (int i = 0; i < WIDE * WIDE; i++) {
                put(mostAir, i % WIDE, Math.max(at(mostAir, i % WIDE), at(hill.air, i)));
            }
        }

        private void tryHour(Hill hill, int w, int hour) {
            if (hour > hours || hour > WAS_HOURS) {
                addRow();
                return;
            }
            for (int p = 0; p < places; p++) {
                tryPlace(hill, w, hour, p);
            }
        }

        private void tryPlace(Hill hill, int w, int hour, int place) {
            put(row, hour, place);
            for (int s = 0; s < WIDE; s++) {
                put(coatBehind, hour * WIDE + s, at(coatBehind, (hour - 1) * WIDE + s));
            }
            hill.passHour(coatBehind, hour, w, hour, false, place);
            if (canEndAsTold(hill, w, hour)) {
                tryHour(hill, w, hour + 1);
            }
        }

        /** Whether no SCENT is out of reach of what is told; behind the last HOUR, whether it is that. */
        private boolean canEndAsTold(Hill hill, int w, int hour) {
            int keep = at(hill.keep, w);
            int fadings = keep > 0 ? hours / keep - hour / keep : 0;
            for (int s = 0; s < WIDE; s++) {
                int much = at(coatBehind, hour * WIDE + s);
                int least = much - fadings * at(hill.fade, s);
                int most = much + (hours - hour) * at(mostAir, s);
                if (at(told, s) < least || at(told, s) > most) {
                    return false;
                }
            }
            return true;
        }

        private void addRow() {
            if (found == 0) {
                firstHours = hours;
                copy(row, firstRow);
            }
            found++;
            for (int hour = 1; hour <= hours; hour++) {
                int i = hour * WIDE + at(row, hour);
                put(rowsBy, i, at(rowsBy, i) + 1);
            }
        }
    }

    /** CHANGED: which two can have changed COATS, and when. */
    private static final class Changed {
        int found;
        final int[] ways = new int[WAYS];

        private int hours;
        private int witnesses;
        private final int[] told = new int[WIDE * WIDE];
        // By HOUR and WITNESS.
        private final int[] where = new int[(TOLD_HOURS + 1) * WIDE];
        // By HOUR, COAT and SCENT: what it has behind the HOUR, if none changes; at HOUR 0 nothing.
        private final int[] coatBehind = new int[(TOLD_HOURS + 1) * WIDE * WIDE];
        private final int[] trial = new int[WIDE];

        int search(Hill hill, Tape tape, int hour) {
            hours = hour;
            witnesses = at(hill.many, WITNESS);
            found = 0;
            readTold(tape, at(hill.many, SCENT));
            passAllHours(hill);
            for (int a = 0; a < witnesses; a++) {
                for (int b = a + 1; b < witnesses; b++) {
                    if (areOthersAsTold(a, b)) {
                        searchHours(hill, a, b);
                    }
                }
            }
            return found;
        }

        private void readTold(Tape tape, int scents) {
            Arrays.fill(told, 0);
            for (int w = 0; w < witnesses; w++) {
                for (int s = 0; s < scents; s++) {
                    put(told, w * WIDE + s, at(tape.bytes, w * scents + s));
                }
            }
        }

        private void passAllHours(Hill hill) {
            copy(hill.start, where);
            for (int hour = 1; hour <= hours; hour++) {
                for (int w = 0; w < witnesses; w++) {
                    int went = hill.wentTo(w, hour);
                    put(where, hour * WIDE + w, went != NONE ? went : at(where, (hour - 1) * WIDE + w));
                    int behind = hour * WIDE + w;
                    take(behind - WIDE, coatBehind, behind);
                    hill.passHour(coatBehind, behind, w, hour, hill.isRainTold(hour), at(where, behind));
                }
            }
        }

        private void take(int from, int[] rows, int to) {
            for (int s = 0; s < WIDE; s++) {
                put(rows, to * WIDE + s, at(coatBehind, from * WIDE + s));
            }
        }

        private boolean areOthersAsTold(int a, int b) {
            for (int w = 0; w < witnesses; w++) {
                if (w != a && w != b && difference(coatBehind, hours * WIDE + w, told, w) != 0) {
                    return false;
                }
            }
            return true;
        }

        private void searchHours(Hill hill, int a, int b) {
            for (int from = 1; from <= hours; from++) {
                if (isAsTold(hill, a, b, from) && isAsTold(hill, b, a, from)) {
                    put(ways, found, 10000 * a + 1000 * b + from);
                    found++;
                }
            }
        }

        /** Whether a COAT is as told, if another wears it from an HOUR on. */
        private boolean isAsTold(Hill hill, int coat, int other, int from) {
            take((from - 1) * WIDE + coat, trial, 0);
            for (int hour = from; hour <= hours; hour++) {
                hill.passHour(trial, 0, coat, hour, hill.isRainTold(hour), at(where, hour * WIDE + other));
            }
            return difference(trial, 0, told, coat) == 0;
        }
    }

    /** HOURS DRAWN by a seed. */
    private static final class Draws {
        boolean drawn;
        int rains;
        int changes;
        int walks;
        private int x;
        private final World year = new World();

        void passHours(Hill hill, World world, int hours, int seed) {
            drawn = true;
            rains = 0;
            changes = 0;
            walks = 0;
            x = seed;
            for (int i = 0; i < hours; i++) {
                walks += drawWalks(hill, world);
                changes += drawChange(hill, world);
                int rain = drawRain();
                rains += rain;
                world.passHour(hill, rain == 1);
            }
        }

        boolean endsInOwnCoat(Hill hill, World world, int w, int seed) {
            year.copyFrom(world);
            x = seed;
            // What is on the COATS draws nothing: the HOURS themselves need not pass.
            for (int i = 0; i < YEAR_HOURS; i++) {
                drawWalks(hill, year);
                drawChange(hill, year);
                drawRain();
            }
            return at(year.worn, w) == w;
        }

        private int draw(int n) {
            x = x * 1103515245 + 12345;
            return n > 0 ? (x >>> 8) % n : 0;
        }

        private int drawWalks(Hill hill, World world) {
            int count = 0;
            for (int w = 0; w < at(hill.many, WITNESS); w++) {
                if (draw(3) == 0) {
                    put(world.place, w, draw(at(hill.many, PLACE)));
                    count++;
                }
            }
            return count;
        }

        private int drawChange(Hill hill, World world) {
            if (draw(8) != 0) {
                return 0;
            }
            int a = draw(at(hill.many, WITNESS));
            int b = draw(at(hill.many, WITNESS));
            if (a == b) {
                return 0;
            }
            world.swap(a, b);
            return 1;
        }

        private int drawRain() {
            return draw(5) == 0 ? 1 : 0;
        }
    }
}
