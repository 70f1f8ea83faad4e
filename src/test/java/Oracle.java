import java.util.ArrayList;
import java.util.Arrays;
import java.util.HashMap;
import java.util.List;
import java.util.Map;
import java.util.NoSuchElementException;
import java.util.Set;
import java.util.TreeMap;
import java.util.TreeSet;

/**
 * The document once more, told as slowly and plainly as it can be, with the Java library: what
 * ScentCourt answers is held against what this answers. It shares no code with ScentCourt.
 */
public final class Oracle {
    static final Set<String> KEYS = new TreeSet<>(List.of("scent", "place", "smoke", "witness", "went", "rain", "at",
            "smells", "wears", "or", "and", "not", "clean", "own", "sum", "most", "keep"));

    /** A FAULT, told by its kind and place. */
    static final class Fault extends RuntimeException {
        private static final long serialVersionUID = 1L;
        final int kind;
        final int place;

        Fault(int kind, int place) {
            this.kind = kind;
            this.place = place;
        }
    }

    /** Kind: w a word, n a number, e the end, ? none; else the sign. */
    record Token(char kind, String text, int place) {
        boolean is(String sign) {
            return text.equals(sign) && kind != 'e' && kind != '?';
        }

        boolean isName() {
            return kind == 'w' && !KEYS.contains(text);
        }
    }

    static final class Reader {
        final List<Token> tokens = new ArrayList<>();
        int next = 0;

        Reader(String text, int most) {
            int i = 0;
            while (i < text.length()) {
                char sign = text.charAt(i);
                if (sign == ' ' || sign == '\n') {
                    i++;
                    continue;
                }
                int end = i;
                while (end < text.length() && String.valueOf(text.charAt(end)).matches("[a-z0-9]")) {
                    end++;
                }
                end = Math.max(end, i + 1);
                String run = text.substring(i, end);
                char kind = run.matches("[a-z]{1,7}") ? 'w' : run.matches("[0-9]{1,3}") ? 'n'
                        : run.matches("[;<=>().]") ? run.charAt(0) : '?';
                if (i < most) {
                    tokens.add(new Token(kind, run, i));
                }
                i = end;
            }
            boolean tooLong = text.length() > most;
            tokens.add(new Token(tooLong ? '?' : 'e', "", tooLong ? most : text.length()));
        }

        Token peek() {
            return tokens.get(next);
        }

        Token take(boolean canCome) {
            Token token = peek();
            if (!canCome || token.kind == '?') {
                throw new Fault(1, token.place);
            }
            next++;
            return token;
        }

        int number(int least, int most) {
            Token token = take(peek().kind == 'n');
            int number = Integer.parseInt(token.text);
            if (number < least || number > most) {
                throw new Fault(2, token.place);
            }
            return number;
        }

        int told(List<String> names) {
            Token token = take(peek().isName());
            int i = names.indexOf(token.text);
            if (i < 0) {
                throw new Fault(3, token.place);
            }
            return i;
        }

        int lastPlace() {
            return tokens.get(next - 1).place;
        }
    }

    static final class Hill {
        final List<String> scents = new ArrayList<>();
        final List<String> places = new ArrayList<>();
        final List<String> witnesses = new ArrayList<>();
        final List<Integer> fades = new ArrayList<>();
        final List<Map<Integer, Integer>> told = new ArrayList<>();
        final List<List<Integer>> smokes = new ArrayList<>();
        final List<Integer> keeps = new ArrayList<>();
        final List<Integer> starts = new ArrayList<>();
        final Map<List<Integer>, Integer> went = new HashMap<>();
        final Set<Integer> rains = new TreeSet<>();

        int air(int place, int scent) {
            int air = told.get(place).getOrDefault(scent, 0);
            for (List<Integer> smoke : smokes) {
                if (smoke.get(0) == scent && smoke.get(2) == place) {
                    air += told.get(smoke.get(1)).getOrDefault(scent, 0) / 2;
                }
            }
            return air;
        }

        void newName(Reader reader, List<String> names) {
            Token token = reader.take(reader.peek().isName());
            if (scents.contains(token.text) || places.contains(token.text) || witnesses.contains(token.text)) {
                throw new Fault(3, token.place);
            }
            names.add(token.text);
        }

        void line(Reader reader) {
            Token first = reader.take(Set.of("scent", "place", "smoke", "witness", "went", "rain")
                    .contains(reader.peek().text));
            int[] had = {scents.size(), places.size(), smokes.size(), witnesses.size(), went.size(), rains.size()};
            int sort = List.of("scent", "place", "smoke", "witness", "went", "rain").indexOf(first.text);
            if (had[sort] == (sort == 4 ? 20 : 6)) {
                throw new Fault(4, first.place);
            }
            if (sort == 0) {
                newName(reader, scents);
                fades.add(reader.number(0, 9));
            } else if (sort == 1) {
                newName(reader, places);
                Map<Integer, Integer> smells = new HashMap<>();
                while (!reader.peek().is(";")) {
                    int scent = reader.told(scents);
                    if (smells.containsKey(scent)) {
                        throw new Fault(3, reader.lastPlace());
                    }
                    smells.put(scent, reader.number(1, 9));
                }
                told.add(smells);
            } else if (sort == 2) {
                List<Integer> smoke = List.of(reader.told(scents), reader.told(places), reader.told(places));
                if (smokes.contains(smoke) || smoke.get(1).equals(smoke.get(2))) {
                    throw new Fault(3, reader.lastPlace());
                }
                smokes.add(smoke);
            } else if (sort == 3) {
                newName(reader, witnesses);
                keeps.add(reader.number(1, 9));
                starts.add(reader.told(places));
            } else if (sort == 4) {
                List<Integer> key = List.of(reader.told(witnesses), reader.number(1, 60));
                if (went.containsKey(key)) {
                    throw new Fault(3, reader.lastPlace());
                }
                went.put(key, reader.told(places));
            } else {
                int hour = reader.number(1, 60);
                if (!rains.add(hour)) {
                    throw new Fault(3, reader.lastPlace());
                }
            }
            reader.take(reader.peek().is(";"));
        }
    }

    record Cloth(int coat, int box, int hour, int[] has) {
        Cloth with(int newBox, int[] newHas) {
            return new Cloth(coat, newBox, hour, newHas);
        }
    }

    /** A SENTENCE's part: answers of a WITNESS. */
    interface One {
        boolean of(int w);
    }

    Hill hill = new Hill();
    int hour = 0;
    List<Integer> at = new ArrayList<>();
    List<Integer> worn = new ArrayList<>();
    List<int[]> coats = new ArrayList<>();
    List<Cloth> cloths = new ArrayList<>();
    One sentence = null;

    private String tape = "";
    private int faultKind = 0;
    private final List<Object[]> past = new ArrayList<>();
    private final Object[][] images = new Object[2][];
    private List<Integer> opened = List.of();
    private int[] remains = null;
    private List<List<Integer>> wasRows = null;
    private int wasPlaces = 0;
    private int wasHours = 0;
    private List<Integer> wasFirst = null;
    private List<Integer> ways = List.of();
    private int[] weather = null;
    private String text = "";
    private int x;
    private int ones;

    // What stands, as one thing that can be kept.
    private Object[] snapshot() {
        List<int[]> coatCopy = new ArrayList<>();
        for (int[] coat : coats) {
            coatCopy.add(coat.clone());
        }
        return new Object[] {hill, hour, List.copyOf(at), List.copyOf(worn), coatCopy, List.copyOf(cloths), sentence};
    }

    @SuppressWarnings("unchecked")
    private void back(Object[] kept, boolean all) {
        if (all) {
            hill = (Hill) kept[0];
            sentence = (One) kept[6];
        }
        hour = (Integer) kept[1];
        at = new ArrayList<>((List<Integer>) kept[2]);
        worn = new ArrayList<>((List<Integer>) kept[3]);
        coats = new ArrayList<>();
        for (int[] coat : (List<int[]>) kept[4]) {
            coats.add(coat.clone());
        }
        cloths = new ArrayList<>((List<Cloth>) kept[5]);
    }

    private void act() {
        past.add(snapshot());
        if (past.size() > 8) {
            past.remove(0);
        }
    }

    private String takeTape() {
        String all = tape;
        tape = "";
        return all;
    }

    private int[] takeNumbers() {
        return takeTape().chars().toArray();
    }

    private int scents() {
        return hill.scents.size();
    }

    private boolean isScent(int s) {
        return s >= 0 && s < scents();
    }

    private boolean isPlace(int p) {
        return p >= 0 && p < hill.places.size();
    }

    private boolean isWitness(int w) {
        return w >= 0 && w < hill.witnesses.size();
    }

    private boolean isCloth(int c) {
        return c >= 0 && c < cloths.size();
    }

    private int[] wornBy(int w) {
        return coats.get(worn.get(w));
    }

    private static int sum(int[] has) {
        return Arrays.stream(has).sum();
    }

    private static int strong(int[] has) {
        int most = Arrays.stream(has).max().orElse(0);
        for (int s = 0; s < has.length; s++) {
            if (most > 0 && has[s] == most) {
                return s;
            }
        }
        return -1;
    }

    private static int unlikeness(int[] a, int[] b) {
        int all = 0;
        for (int s = 0; s < a.length; s++) {
            all += a[s] > b[s] ? a[s] - b[s] : b[s] - a[s];
        }
        return all;
    }

    private int[] airOf(int place) {
        int[] air = new int[scents()];
        for (int s = 0; s < air.length; s++) {
            air[s] = hill.air(place, s);
        }
        return air;
    }

    private void begin() {
        hour = 0;
        at = new ArrayList<>(hill.starts);
        worn = new ArrayList<>();
        coats = new ArrayList<>();
        for (int w = 0; w < hill.witnesses.size(); w++) {
            worn.add(w);
            coats.add(new int[scents()]);
        }
        cloths = new ArrayList<>();
    }

    private void pass(boolean drawnRain) {
        hour++;
        for (int w = 0; w < at.size(); w++) {
            at.set(w, hill.went.getOrDefault(List.of(w, hour), at.get(w)));
        }
        for (int k = 0; k < coats.size(); k++) {
            int[] coat = coats.get(k);
            for (int s = 0; s < coat.length; s++) {
                if (hour % hill.keeps.get(k) == 0) {
                    coat[s] = Math.max(0, coat[s] - hill.fades.get(s));
                }
                if (drawnRain || hill.rains.contains(hour)) {
                    coat[s] = Math.max(0, coat[s] - 2);
                }
                coat[s] = Math.min(99, coat[s] + hill.air(at.get(worn.indexOf(k)), s));
            }
        }
        for (int c = 0; c < cloths.size(); c++) {
            int[] has = cloths.get(c).has.clone();
            for (int s = 0; s < has.length; s++) {
                if (hour % hill.keeps.get(cloths.get(c).coat) == 0) {
                    has[s] = Math.max(0, has[s] - hill.fades.get(s));
                }
            }
            cloths.set(c, cloths.get(c).with(cloths.get(c).box, has));
        }
        for (int box = 0; box < 3; box++) {
            for (int s = 0; s < scents(); s++) {
                int greatest = 0;
                for (Cloth cloth : cloths) {
                    greatest = cloth.box == box && cloth.has[s] > greatest ? cloth.has[s] : greatest;
                }
                for (Cloth cloth : cloths) {
                    if (cloth.box == box && cloth.has[s] < greatest) {
                        cloth.has[s]++;
                    }
                }
            }
        }
    }

    public int feed(int a, int b, int c, int d, int e) {
        if (tape.length() + 20 > 940) {
            return -1;
        }
        StringBuilder all = new StringBuilder(tape);
        for (int number : new int[] {a, b, c, d, e}) {
            all.append((char) (number >>> 24)).append((char) (number >>> 16 & 255))
                    .append((char) (number >>> 8 & 255)).append((char) (number & 255));
        }
        tape = all.toString();
        return tape.length();
    }

    public boolean end(int n) {
        if (n < 0 || n > tape.length()) {
            return false;
        }
        tape = tape.substring(0, n);
        return true;
    }

    public int hill() {
        Reader reader = new Reader(takeTape(), 900);
        Hill told = new Hill();
        int lines = 0;
        try {
            while (reader.peek().kind != 'e') {
                told.line(reader);
                lines++;
            }
        } catch (Fault fault) {
            faultKind = fault.kind;
            return -1 - fault.place;
        }
        faultKind = 0;
        hill = told;
        begin();
        sentence = null;
        past.clear();
        return lines;
    }

    public int fault() {
        return faultKind;
    }

    public int air(int place, int scent) {
        if (!isPlace(place) || !isScent(scent)) {
            throw new NoSuchElementException();
        }
        return hill.air(place, scent);
    }

    public int fade(int scent) {
        return isScent(scent) ? hill.fades.get(scent) : -1;
    }

    public int witness(int w, int what) {
        if (!isWitness(w) || what < 0 || what > 4) {
            throw new NoSuchElementException();
        }
        return new int[] {at.get(w), worn.get(w), hill.keeps.get(w), sum(wornBy(w)), strong(wornBy(w))}[what];
    }

    public int coat(int w, int scent) {
        return isWitness(w) && isScent(scent) ? coats.get(w)[scent] : -1;
    }

    public int cloth(int c, int scent) {
        return isCloth(c) && isScent(scent) ? cloths.get(c).has[scent] : -1;
    }

    public int box(int c, int what) {
        if (!isCloth(c) || what < 0 || what > 4) {
            return -1;
        }
        Cloth cloth = cloths.get(c);
        return new int[] {cloth.coat, cloth.box, cloth.hour, strong(cloth.has), sum(cloth.has)}[what];
    }

    public boolean goes(int w, int place) {
        if (!isWitness(w) || !isPlace(place)) {
            return false;
        }
        act();
        at.set(w, place);
        return true;
    }

    private void swap(int a, int b) {
        java.util.Collections.swap(worn, a, b);
    }

    public boolean change(int a, int b) {
        if (!isWitness(a) || !isWitness(b) || a == b) {
            return false;
        }
        act();
        swap(a, b);
        return true;
    }

    public int soap(int w) {
        if (!isWitness(w)) {
            return -1;
        }
        act();
        int all = sum(wornBy(w));
        Arrays.fill(wornBy(w), 0);
        return all;
    }

    public int send(int w, int box) {
        if (!isWitness(w) || box < 0 || box > 2 || cloths.size() == 8) {
            return -1;
        }
        act();
        cloths.add(new Cloth(worn.get(w), box, hour, wornBy(w).clone()));
        return cloths.size() - 1;
    }

    public boolean move(int c, int box) {
        if (!isCloth(c) || box < 0 || box > 2 || cloths.get(c).box == box) {
            return false;
        }
        act();
        cloths.set(c, cloths.get(c).with(box, cloths.get(c).has.clone()));
        return true;
    }

    public int on(int n) {
        if (n < 1 || n > 60 || hour + n > 999) {
            return -1;
        }
        act();
        // A kept CLOTH is shared until an HOUR makes its own copy.
        for (int i = 0; i < n; i++) {
            pass(false);
        }
        return hour;
    }

    public int undo() {
        if (past.isEmpty()) {
            return -1;
        }
        back(past.remove(past.size() - 1), false);
        return past.size();
    }

    private static void permute(List<Integer> head, List<Integer> rest, List<List<Integer>> all) {
        if (rest.isEmpty()) {
            all.add(head);
        }
        for (Integer next : rest) {
            List<Integer> longer = new ArrayList<>(head);
            longer.add(next);
            List<Integer> fewer = new ArrayList<>(rest);
            fewer.remove(next);
            permute(longer, fewer, all);
        }
    }

    /** Where the first one is DROWNED in a row; what REMAINS is told behind it. */
    private int firstDrowned(List<Integer> row, int[] left) {
        int first = -1;
        for (int i = 0; i < row.size(); i++) {
            int[] has = cloths.get(row.get(i)).has;
            int s = strong(has);
            if (first < 0 && (s < 0 || left[s] >= has[s])) {
                first = i;
            }
            for (int t = 0; t < has.length; t++) {
                left[t] = Math.max(left[t] / 2, has[t]);
            }
        }
        return first;
    }

    private List<Integer> firstRow(List<Integer> set) {
        List<List<Integer>> all = new ArrayList<>();
        permute(new ArrayList<>(), set, all);
        for (List<Integer> row : all) {
            if (firstDrowned(row, new int[scents()]) < 0) {
                return row;
            }
        }
        return null;
    }

    private List<Integer> allCloths() {
        List<Integer> all = new ArrayList<>();
        for (int c = 0; c < cloths.size(); c++) {
            all.add(c);
        }
        return all;
    }

    public int order() {
        List<Integer> row = firstRow(allCloths());
        if (row == null) {
            return -1;
        }
        opened = row;
        return row.size();
    }

    public int opened(int i) {
        return i >= 0 && i < opened.size() ? opened.get(i) : -1;
    }

    /** Gives CLOTH by CLOTH to one of the NOSES there are or to a new one. */
    private int share(int c, List<List<Integer>> noses, Map<List<Integer>, Boolean> known) {
        if (c == cloths.size()) {
            for (List<Integer> nose : noses) {
                if (!known.computeIfAbsent(List.copyOf(nose), set -> firstRow(set) != null)) {
                    return 99;
                }
            }
            return noses.size();
        }
        int best = 99;
        for (int i = 0; i <= noses.size(); i++) {
            if (i == noses.size()) {
                noses.add(new ArrayList<>());
            }
            noses.get(i).add(c);
            best = Math.min(best, share(c + 1, noses, known));
            noses.get(i).remove(noses.get(i).size() - 1);
            if (noses.get(i).isEmpty()) {
                noses.remove(i);
                break;
            }
        }
        return best;
    }

    public int noses() {
        int best = share(0, new ArrayList<>(), new HashMap<>());
        return best == 99 ? -1 : best;
    }

    public int drowned() {
        int[] numbers = takeNumbers();
        Set<Integer> unlike = new TreeSet<>();
        List<Integer> row = new ArrayList<>();
        for (int c : numbers) {
            if (!isCloth(c) || !unlike.add(c)) {
                return -2;
            }
            row.add(c);
        }
        if (row.isEmpty()) {
            return -2;
        }
        int[] left = new int[scents()];
        int answer = firstDrowned(row, left);
        remains = Arrays.copyOf(left, 6);
        return answer;
    }

    public int remains(int scent) {
        return remains != null && isScent(scent) ? remains[scent] : -1;
    }

    public int was(int w, int n) {
        int[] told = takeNumbers();
        if (!isWitness(w) || n < 1 || n > 6 || told.length != scents()) {
            return -1;
        }
        int[][] airs = new int[hill.places.size()][];
        for (int p = 0; p < airs.length; p++) {
            airs[p] = airOf(p);
        }
        wasRows = new ArrayList<>();
        wasPlaces = airs.length;
        wasHours = n;
        int[] row = new int[n];
        for (boolean more = true; more;) {
            int[] has = new int[told.length];
            for (int h = 1; h <= n; h++) {
                for (int s = 0; s < has.length; s++) {
                    int left = has[s] - (h % hill.keeps.get(w) == 0 ? hill.fades.get(s) : 0);
                    has[s] = Math.min(99, Math.max(0, left) + airs[row[h - 1]][s]);
                }
            }
            if (Arrays.equals(has, told)) {
                List<Integer> found = new ArrayList<>();
                for (int p : row) {
                    found.add(p);
                }
                wasRows.add(found);
            }
            more = false;
            for (int h = n - 1; h >= 0 && !more; h--) {
                row[h] = (row[h] + 1) % airs.length;
                more = row[h] != 0;
            }
        }
        if (!wasRows.isEmpty()) {
            wasFirst = wasRows.get(0);
        }
        return wasRows.size();
    }

    public int rows(int atHour, int place) {
        if (wasRows == null || atHour < 1 || atHour > wasHours || place < 0 || place >= wasPlaces) {
            return -1;
        }
        int count = 0;
        for (List<Integer> row : wasRows) {
            count += row.get(atHour - 1) == place ? 1 : 0;
        }
        return count;
    }

    public int first(int atHour) {
        return wasFirst == null || atHour < 1 || atHour > wasFirst.size() ? -1 : wasFirst.get(atHour - 1);
    }

    public int changed() {
        int[] told = takeNumbers();
        int people = hill.witnesses.size();
        if (hour > 60 || told.length != people * scents()) {
            return -1;
        }
        ways = new ArrayList<>();
        for (int a = 0; a < people; a++) {
            for (int b = a + 1; b < people; b++) {
                for (int h = 1; h <= hour; h++) {
                    Oracle other = new Oracle();
                    other.hill = hill;
                    other.begin();
                    while (other.hour < hour) {
                        if (other.hour == h - 1) {
                            other.swap(a, b);
                        }
                        other.pass(false);
                    }
                    int[] all = other.coats.stream().flatMapToInt(Arrays::stream).toArray();
                    if (Arrays.equals(all, told)) {
                        ways.add(10000 * a + 1000 * b + h);
                    }
                }
            }
        }
        return ways.size();
    }

    public int changeAt(int k) {
        return k >= 0 && k < 40 && k < ways.size() ? ways.get(k) : -1;
    }

    private static int firstLeast(Map<Integer, Integer> byNumber) {
        int best = -1;
        for (Map.Entry<Integer, Integer> entry : byNumber.entrySet()) {
            if (best < 0 || entry.getValue() < byNumber.get(best)) {
                best = entry.getKey();
            }
        }
        return best;
    }

    public int dog(int c) {
        Map<Integer, Integer> unlike = new TreeMap<>();
        for (int w = 0; isCloth(c) && w < coats.size(); w++) {
            unlike.put(w, unlikeness(cloths.get(c).has, coats.get(w)));
        }
        return firstLeast(unlike);
    }

    public int unlike(int c, int w) {
        return isCloth(c) && isWitness(w) ? unlikeness(cloths.get(c).has, coats.get(w)) : -1;
    }

    public int alike() {
        Map<Integer, Integer> unlike = new TreeMap<>();
        for (int c = 0; c < cloths.size(); c++) {
            for (int d = c + 1; d < cloths.size(); d++) {
                unlike.put(10 * c + d, unlikeness(cloths.get(c).has, cloths.get(d).has));
            }
        }
        return firstLeast(unlike);
    }

    public int kitchen(int w) {
        Map<Integer, Integer> less = new TreeMap<>();
        for (int p = 0; isWitness(w) && p < hill.places.size(); p++) {
            int gain = 0;
            for (int s = 0; s < scents(); s++) {
                gain += Math.min(99 - wornBy(w)[s], hill.air(p, s));
            }
            less.put(p, -gain);
        }
        return firstLeast(less);
    }

    public int thread(int c) {
        Map<Integer, Integer> unlike = new TreeMap<>();
        for (int p = 0; isCloth(c) && p < hill.places.size(); p++) {
            unlike.put(p, unlikeness(cloths.get(c).has, airOf(p)));
        }
        return firstLeast(unlike);
    }

    public int source(int scent) {
        Map<Integer, Integer> less = new TreeMap<>();
        for (int p = 0; isScent(scent) && p < hill.places.size(); p++) {
            if (hill.air(p, scent) > 0) {
                less.put(p, -hill.air(p, scent));
            }
        }
        return firstLeast(less);
    }

    public int strangers() {
        List<Integer> now = new ArrayList<>(worn);
        int changes = 0;
        for (int w = 0; w < now.size(); w++) {
            // With each such CHANGE one more wears its own, and none can bring more on a ring.
            while (now.get(w) != w) {
                java.util.Collections.swap(now, w, now.get(w));
                changes++;
            }
        }
        return changes;
    }

    public int wearer(int coat) {
        return worn.indexOf(coat);
    }

    public int clean(int c) {
        if (!isCloth(c)) {
            return -1;
        }
        int[] has = cloths.get(c).has.clone();
        for (int n = 0; n < 2000; n++) {
            if (sum(has) == 0) {
                return n;
            }
            for (int s = 0; s < has.length; s++) {
                if ((hour + n + 1) % hill.keeps.get(cloths.get(c).coat) == 0) {
                    has[s] = Math.max(0, has[s] - hill.fades.get(s));
                }
            }
        }
        return -1;
    }

    public int pleas() {
        Reader reader = new Reader(takeTape(), 300);
        int answer = -1;
        int lines = 0;
        try {
            while (reader.peek().kind != 'e') {
                int w = reader.told(hill.witnesses);
                if (lines == 30) {
                    throw new Fault(4, reader.lastPlace());
                }
                Token verb = reader.take(Set.of("at", "smells", "wears").contains(reader.peek().text));
                boolean so;
                if (verb.text.equals("at")) {
                    so = reader.told(hill.places) == at.get(w);
                } else if (verb.text.equals("smells")) {
                    so = wornBy(w)[reader.told(hill.scents)] > 0;
                } else {
                    so = reader.told(hill.witnesses) == worn.get(w);
                }
                reader.take(reader.peek().is(";"));
                answer = answer < 0 && !so ? lines : answer;
                lines++;
            }
        } catch (Fault fault) {
            faultKind = fault.kind;
            return -2 - fault.place;
        }
        faultKind = 0;
        return answer;
    }

    private int draw(int n) {
        x = x * 1103515245 + 12345;
        return (x >>> 8) % n;
    }

    private int[] drawHours(int n, int seed) {
        int[] counts = new int[3];
        x = seed;
        for (int i = 0; i < n; i++) {
            for (int w = 0; w < at.size(); w++) {
                if (draw(3) == 0) {
                    at.set(w, draw(hill.places.size()));
                    counts[2]++;
                }
            }
            if (draw(8) == 0) {
                int a = draw(at.size());
                int b = draw(at.size());
                if (a != b) {
                    swap(a, b);
                    counts[1]++;
                }
            }
            boolean rain = draw(5) == 0;
            counts[0] += rain ? 1 : 0;
            pass(rain);
        }
        return counts;
    }

    private boolean canDraw(int n) {
        return !hill.witnesses.isEmpty() && !hill.places.isEmpty() && hour + n <= 999;
    }

    public int drawn(int n, int seed) {
        if (n < 1 || n > 60 || !canDraw(n)) {
            return -1;
        }
        act();
        weather = drawHours(n, seed);
        return hour;
    }

    public int weather(int what) {
        return weather == null || what < 0 || what > 2 ? -1 : weather[what];
    }

    public int odds(int w, int n, int seed) {
        if (!isWitness(w) || n < 1 || n > 40 || !canDraw(20)) {
            return -1;
        }
        Object[] now = snapshot();
        int own = 0;
        for (int i = 0; i < n; i++) {
            drawHours(20, seed + i);
            own += worn.get(w) == w ? 1 : 0;
            back(now, true);
        }
        return own;
    }

    public int write(int w) {
        if (!isWitness(w)) {
            return -1;
        }
        StringBuilder all = new StringBuilder();
        for (int s = 0; s < scents(); s++) {
            if (coats.get(w)[s] > 0) {
                all.append(hill.scents.get(s)).append(' ').append(coats.get(w)[s]).append(';');
            }
        }
        text = all.toString();
        return text.length();
    }

    public int byteAt(int i) {
        return i >= 0 && i < text.length() ? text.charAt(i) : -1;
    }

    private One cond(Reader reader, int depth) {
        One first = all(reader, depth);
        while (reader.peek().is("or")) {
            reader.take(true);
            One left = first;
            One right = all(reader, depth);
            first = w -> left.of(w) || right.of(w);
        }
        return first;
    }

    private One all(Reader reader, int depth) {
        One first = one(reader, depth);
        while (reader.peek().is("and")) {
            reader.take(true);
            One left = first;
            One right = one(reader, depth);
            first = w -> left.of(w) && right.of(w);
        }
        return first;
    }

    private One one(Reader reader, int depth) {
        Token token = reader.take(Set.of("not", "(", "clean", "own", "at", "smells", "sum", "most", "keep")
                .contains(reader.peek().text));
        ones++;
        if (ones > 20 || depth > 8) {
            throw new Fault(4, token.place);
        }
        switch (token.text) {
            case "not": {
                One inside = one(reader, depth + 1);
                return w -> !inside.of(w);
            }
            case "(": {
                One inside = cond(reader, depth + 1);
                reader.take(reader.peek().is(")"));
                return inside;
            }
            case "clean":
                return w -> sum(wornBy(w)) == 0;
            case "own":
                return w -> worn.get(w) == w;
            case "at": {
                int place = reader.told(hill.places);
                return w -> at.get(w) == place;
            }
            case "smells": {
                int scent = reader.told(hill.scents);
                return w -> wornBy(w)[scent] > 0;
            }
            default: {
                Token sign = reader.take(Set.of("<", "=", ">").contains(reader.peek().text));
                int number = reader.number(0, 999);
                return w -> {
                    int much = token.text.equals("sum") ? sum(wornBy(w)) : token.text.equals("keep")
                            ? hill.keeps.get(worn.get(w)) : Arrays.stream(wornBy(w)).max().orElse(0);
                    return sign.is("<") ? much < number : sign.is(">") ? much > number : much == number;
                };
            }
        }
    }

    public int sentence() {
        Reader reader = new Reader(takeTape(), 200);
        ones = 0;
        try {
            One told = cond(reader, 1);
            reader.take(reader.peek().kind == 'e');
            sentence = told;
        } catch (Fault fault) {
            faultKind = fault.kind;
            return -1 - fault.place;
        }
        faultKind = 0;
        return ones;
    }

    public int said(int k) {
        if (sentence == null) {
            return -1;
        }
        List<Integer> of = new ArrayList<>();
        for (int w = 0; w < hill.witnesses.size(); w++) {
            if (sentence.of(w)) {
                of.add(w);
            }
        }
        return k == -1 ? of.size() : k >= 0 && k < of.size() ? of.get(k) : -1;
    }

    public boolean image(int k) {
        if (k < 0 || k > 1) {
            return false;
        }
        images[k] = snapshot();
        return true;
    }

    public boolean restore(int k) {
        if (k < 0 || k > 1 || images[k] == null) {
            return false;
        }
        back(images[k], true);
        past.clear();
        return true;
    }

    public int count(int what) {
        int[] all = {scents(), hill.places.size(), hill.witnesses.size(), hill.smokes.size(), hour, cloths.size(),
            tape.length()};
        return what < 0 || what > 6 ? -1 : all[what];
    }
}
