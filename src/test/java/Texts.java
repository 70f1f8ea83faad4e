import java.util.ArrayList;
import java.util.List;
import java.util.Random;

/** Texts drawn by a fixed seed: mostly as the document tells them, some of them spoilt. */
final class Texts {
    private static final String[] NAMES = {"a", "b", "c", "d", "e", "f", "g", "h", "rose", "soot", "fat", "garden",
        "kitchen", "hall", "anna", "bert", "carla", "dora", "zzzzzzz", "yyyyyyy", "x", "ab", "ba"};
    private static final String[] SHORT = {"a", "b", "c", "d", "e", "f", "g", "h", "i", "j", "k", "l", "m", "n", "o", "p",
        "r", "s", "t", "u", "v", "x"};
    private static final String[] WORDS = {"scent", "place", "smoke", "witness", "went", "rain", "at", "smells", "wears",
        "or", "and", "not", "clean", "own", "sum", "most", "keep", ";", "<", "=", ">", "(", ")", ".", "1", "0", "61",
        "10", "007", "999", "1000", "a1", "eightlet", "q", "a", "rose", "A", "-", "\n", "\u00e9", "\u0000", "\t"};

    private final Random random;
    private String[] names = NAMES;
    final List<String> scents = new ArrayList<>();
    final List<String> places = new ArrayList<>();
    final List<String> witnesses = new ArrayList<>();

    Texts(Random random) {
        this.random = random;
    }

    private int upTo(int most) {
        return random.nextInt(most + 1);
    }

    private static String any(Random random, List<String> names) {
        return names.isEmpty() ? "q" : names.get(random.nextInt(names.size()));
    }

    private String freshName() {
        for (int i = 0; i < 1000; i++) {
            String name = names[random.nextInt(names.length)];
            if (!scents.contains(name) && !places.contains(name) && !witnesses.contains(name)) {
                return name;
            }
        }
        return "q";
    }

    /** A HILL with so many of each; its names are kept for the texts after it. */
    String hill(int manyScents, int manyPlaces, int manyWitnesses) {
        names = random.nextBoolean() ? SHORT : NAMES;
        scents.clear();
        places.clear();
        witnesses.clear();
        StringBuilder text = new StringBuilder();
        for (int n = manyScents; n > 0; n--) {
            String name = freshName();
            scents.add(name);
            text.append("scent ").append(name).append(' ').append(upTo(9) * upTo(1)).append(';');
        }
        for (int n = manyPlaces; n > 0; n--) {
            addPlace(text);
        }
        addSmokes(text);
        for (int n = manyWitnesses; n > 0 && !places.isEmpty(); n--) {
            String name = freshName();
            witnesses.add(name);
            text.append("witness ").append(name).append(' ').append(1 + upTo(8) * upTo(1)).append(' ')
                    .append(any(random, places)).append(";");
        }
        addHours(text);
        return text.toString();
    }

    private void addPlace(StringBuilder text) {
        String name = freshName();
        places.add(name);
        text.append("place ").append(name);
        for (String scent : scents) {
            if (random.nextInt(2) == 0) {
                text.append(' ').append(scent).append(' ').append(1 + upTo(8));
            }
        }
        text.append(random.nextInt(4) == 0 ? "\n ;" : ";");
    }

    private void addSmokes(StringBuilder text) {
        List<String> told = new ArrayList<>();
        for (int n = upTo(6); n > 0 && !scents.isEmpty() && places.size() > 1; n--) {
            int from = random.nextInt(places.size());
            int to = (from + 1 + random.nextInt(places.size() - 1)) % places.size();
            String line = "smoke " + any(random, scents) + " " + places.get(from) + " " + places.get(to) + ";";
            if (!told.contains(line)) {
                told.add(line);
                text.append(line);
            }
        }
    }

    private void addHours(StringBuilder text) {
        List<String> told = new ArrayList<>();
        for (int n = upTo(6); n > 0 && !witnesses.isEmpty(); n--) {
            String key = "went " + any(random, witnesses) + " " + (1 + upTo(random.nextInt(3) == 0 ? 59 : 9)) + " ";
            if (!told.contains(key)) {
                told.add(key);
                text.append(key).append(any(random, places)).append(';');
            }
        }
        for (int n = upTo(3); n > 0; n--) {
            String line = "rain " + (1 + upTo(random.nextInt(3) == 0 ? 59 : 9)) + ";";
            if (!told.contains(line)) {
                told.add(line);
                text.append(line);
            }
        }
    }

    String pleas(int mostLines) {
        StringBuilder text = new StringBuilder();
        for (int n = upTo(mostLines); n > 0; n--) {
            String w = any(random, witnesses);
            int claim = random.nextInt(3);
            text.append(w).append(claim == 0 ? " at " : claim == 1 ? " smells " : " wears ");
            text.append(claim == 2 && random.nextBoolean() ? w
                    : any(random, claim == 0 ? places : claim == 1 ? scents : witnesses)).append(';');
        }
        return text.toString();
    }

    String sentence(int depth) {
        StringBuilder text = new StringBuilder(one(depth));
        for (int n = upTo(3); n > 0; n--) {
            text.append(random.nextInt(2) == 0 ? " or " : " and ").append(one(depth));
        }
        return text.toString();
    }

    private String one(int depth) {
        int kind = random.nextInt(depth > 0 ? 11 : 7);
        switch (kind) {
            case 0: return "clean";
            case 1: return "own";
            case 2: return "at " + any(random, places);
            case 3: return "smells " + any(random, scents);
            case 4: return "sum" + "<=>".charAt(random.nextInt(3)) + upTo(200);
            case 5: return "most " + "<=>".charAt(random.nextInt(3)) + upTo(99);
            case 6: return "keep" + "<=>".charAt(random.nextInt(3)) + " " + upTo(9);
            case 7:
            case 8: return "not " + one(depth - 1);
            default: return "(" + sentence(depth - 1) + ")";
        }
    }

    /** The text with a few bytes or words put in, left out, said again or put elsewhere. */
    String spoilt(String text) {
        String now = text;
        for (int n = 1 + upTo(1); n > 0; n--) {
            int i = upTo(now.length());
            int j = Math.min(now.length(), i + upTo(8));
            int where = upTo(now.length());
            switch (random.nextInt(9)) {
                case 0: now = now.substring(0, i) + now.substring(j); break;
                case 1: now = now.substring(0, i) + now.substring(i, j) + now.substring(i); break;
                case 2: now = now.substring(0, i) + WORDS[random.nextInt(WORDS.length)] + now.substring(j); break;
                case 3: now = now.substring(0, i) + " " + WORDS[random.nextInt(WORDS.length)] + " " + now.substring(i);
                    break;
                case 4: now = lineAgain(now, i); break;
                case 5:
                case 6: now = otherToken(now); break;
                case 7: now = otherNumber(now); break;
                default: now = now.substring(0, where) + now.substring(i, j) + now.substring(where);
            }
        }
        return now;
    }

    private String otherToken(String text) {
        String[] tokens = text.split("(?<=[ ;<=>()])|(?=[ ;<=>()])");
        int i = random.nextInt(tokens.length);
        tokens[i] = random.nextInt(3) == 0 ? WORDS[random.nextInt(WORDS.length)] : tokens[random.nextInt(tokens.length)];
        return String.join("", tokens);
    }

    private String otherNumber(String text) {
        String[] parts = text.split("(?<=[0-9])(?![0-9])|(?<![0-9])(?=[0-9])");
        for (int i = random.nextInt(parts.length); i < parts.length; i++) {
            if (parts[i].matches("[0-9]+")) {
                parts[i] = String.valueOf(new int[] {0, 1, 9, 10, 60, 61, 99, 999}[random.nextInt(8)]);
                break;
            }
        }
        return String.join("", parts);
    }

    private static String lineAgain(String text, int i) {
        int from = text.lastIndexOf(';', i - 1) + 1;
        int to = text.indexOf(';', i);
        return to < 0 || from > to ? text : text + text.substring(from, to + 1);
    }

    /** The text with so many blanks somewhere that it is about as long as is told. */
    String stretched(String text, int most) {
        int blanks = most - text.length() + random.nextInt(5) - 2;
        if (blanks <= 0) {
            return text;
        }
        int i = text.indexOf(' ', upTo(text.length()));
        i = i < 0 ? text.length() : i;
        return text.substring(0, i) + Check.repeat(" ", blanks) + text.substring(i);
    }
}
