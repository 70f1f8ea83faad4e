import java.io.IOException;
import java.nio.charset.StandardCharsets;
import java.nio.file.Files;
import java.nio.file.Path;
import java.util.LinkedHashMap;
import java.util.Map;
import java.util.TreeMap;
import java.util.TreeSet;

/**
 * Says a sentence of the document, then what is due by it. A sentence that the document doesn't have,
 * one by which nothing is due, and words of the document that were never said are wrong.
 */
final class Said {
    static final int NONE = ScentCourt.NONE;
    static final int FAR = Integer.MAX_VALUE;
    static final int DEEP = Integer.MIN_VALUE;
    private static final Path DOCUMENT = Path.of("../shared/DOC.md");

    private final Check check;
    private final Map<String, String> parts = new LinkedHashMap<>();
    private final Map<String, boolean[]> told = new TreeMap<>();
    private String sentence = "";
    private int dueBySentence = 1;
    private final TreeSet<String> face = new TreeSet<>();

    Said(Check check) throws IOException {
        this.check = check;
        if (Files.exists(DOCUMENT)) {
            readParts(Files.readString(DOCUMENT, StandardCharsets.UTF_8));
        } else {
            System.out.println("no " + DOCUMENT + " here: its words are not looked up");
        }
    }

    private void readParts(String document) {
        for (String part : document.split("\n## ")) {
            String name = part.lines().findFirst().orElse("").replaceAll("(Promise \\d+):.*", "$1");
            String text = part.substring(part.indexOf('\n') + 1).replace("```text", "").replace("```", "");
            text = text.replaceAll("==== \\d\\.", "").replaceAll("\\s+", " ").replaceAll("^ `[^`]*`:", "");
            if (name.equals("The public face")) {
                readFace(part);
            }
            if (name.equals("Terms") || name.startsWith("Promise ")) {
                parts.put(name, text);
                told.put(name, new boolean[text.length()]);
            }
        }
    }

    private void readFace(String part) {
        for (String line : part.split("\n")) {
            if (line.startsWith("    public ")) {
                face.add(line.trim().replaceAll("( = -1)?;", "").replaceAll("\\bint \\w+(?=[,)])", "int"));
            }
        }
    }

    /** The lines of the public face, arguments by their types alone; none if there is no document here. */
    TreeSet<String> face() {
        return face;
    }

    void says(String part, String words) {
        closeSentence();
        sentence = part + ", \"" + words + "\": ";
        dueBySentence = 0;
        if (parts.isEmpty()) {
            return;
        }
        String text = parts.getOrDefault(part, "");
        int from = text.indexOf(words);
        check.same(sentence + "stands in the document", from >= 0, true);
        for (; from >= 0; from = text.indexOf(words, from + 1)) {
            for (int i = from; i < from + words.length(); i++) {
                told.get(part)[i] = true;
            }
        }
    }

    private void closeSentence() {
        check.same(sentence + "something is due by it", dueBySentence > 0, true);
    }

    /** No word of the document is left that was not said. */
    void end() {
        closeSentence();
        for (Map.Entry<String, String> part : parts.entrySet()) {
            StringBuilder left = new StringBuilder();
            boolean[] said = told.get(part.getKey());
            for (int i = 0; i < said.length; i++) {
                char sign = part.getValue().charAt(i);
                left.append(said[i] || !Character.isLetterOrDigit(sign) ? ' ' : sign);
            }
            String words = left.toString().replaceAll(" +", " ").trim();
            check.same(part.getKey() + ", not said: \"" + words + "\"", words.length(), 0);
        }
    }

    void due(String what, long got, long due) {
        dueBySentence++;
        check.same(sentence + what, got, due);
    }

    void due(String what, boolean got, boolean due) {
        due(what, got ? 1 : 0, due ? 1 : 0);
    }

    void due(String what, String got, String due) {
        due(what + ": " + got + " for " + due, got.equals(due), true);
    }

    /** A new court with a HILL that has no FAULT. */
    ScentCourt court(String hill) {
        ScentCourt court = new ScentCourt();
        due("LINES of " + hill, Check.hill(court, hill), hill.chars().filter(sign -> sign == ';').count());
        return court;
    }

    /** The place of the FAULT is marked by ^, which is no byte of the text. */
    void hillFault(String marked, int kind) {
        ScentCourt court = new ScentCourt();
        due("HILL " + marked, Check.hill(court, text(marked)), -1 - place(marked));
        isFault(court, marked, kind);
    }

    void pleasFault(String hill, String marked, int kind) {
        ScentCourt court = court(hill);
        due("PLEAS " + marked, Check.pleas(court, text(marked)), -2 - place(marked));
        isFault(court, marked, kind);
    }

    void sentenceFault(String hill, String marked, int kind) {
        ScentCourt court = court(hill);
        due("SENTENCE " + marked, Check.sentence(court, text(marked)), -1 - place(marked));
        isFault(court, marked, kind);
    }

    private void isFault(ScentCourt court, String marked, int kind) {
        due("its kind, of " + marked, court.fault(), kind);
        due("the tape is empty behind " + marked, court.count(6), 0);
    }

    private static int place(String marked) {
        return marked.indexOf('^');
    }

    private static String text(String marked) {
        int place = place(marked);
        return marked.substring(0, place) + marked.substring(place + 1);
    }

    /** A SENTENCE, of how many ONES it is, and of whom it may be said. */
    void saidOf(ScentCourt court, String text, int ones, int... whom) {
        due("ONES of " + text, Check.sentence(court, text), ones);
        due("FAULT of " + text, court.fault(), 0);
        due("how many of " + text, court.said(NONE), whom.length);
        for (int k = 0; k < whom.length; k++) {
            due("who is number " + k + " of " + text, court.said(k), whom[k]);
        }
        due("none behind the last of " + text, court.said(whom.length), NONE);
    }

    void coat(ScentCourt court, int w, int... much) {
        for (int s = 0; s < much.length; s++) {
            due("COAT " + w + ", SCENT " + s + ", HOUR " + court.count(4), court.coat(w, s), much[s]);
        }
    }

    void cloth(ScentCourt court, int c, int... much) {
        for (int s = 0; s < much.length; s++) {
            due("CLOTH " + c + ", SCENT " + s + ", HOUR " + court.count(4), court.cloth(c, s), much[s]);
        }
    }

    /** Passes so many HOURS, 60 at once. */
    void pass(ScentCourt court, int hours) {
        int due = court.count(4);
        for (int left = hours; left > 0; left -= 60) {
            due += Math.min(60, left);
            due("the HOUR", court.on(Math.min(60, left)), due);
        }
    }

    /**
     * A HILL of SCENTS s and t that don't fade: WITNESS i is where there is so much of the two, and KEEPS 1.
     * Its name is w and the PLACE's letter.
     */
    static String smells(int[]... much) {
        StringBuilder hill = new StringBuilder("scent s 0;scent t 0;");
        for (int i = 0; i < much.length; i++) {
            char place = (char) ('a' + i);
            hill.append("place ").append(place);
            hill.append(much[i][0] > 0 ? " s " + much[i][0] : "").append(much[i][1] > 0 ? " t " + much[i][1] : "");
            hill.append(";witness w").append(place).append(" 1 ").append(place).append(';');
        }
        return hill.toString();
    }

    /** A court at HOUR 1 with a CLOTH of each COAT, in BOX 0, no HOUR behind it. */
    ScentCourt cut(int[]... much) {
        ScentCourt court = court(smells(much));
        court.on(1);
        for (int i = 0; i < much.length; i++) {
            due("a CLOTH", court.send(i, 0), i);
        }
        return court;
    }

    /** All that acts alter and images keep, the HILL's AIR, FADES and KEEPS among it. */
    static String all(ScentCourt court) {
        StringBuilder all = new StringBuilder();
        int[] counts = new int[6];
        for (int what = 0; what < counts.length; what++) {
            counts[what] = court.count(what);
            all.append(counts[what]).append(' ');
        }
        for (int s = 0; s < counts[0]; s++) {
            all.append("\nFADE ").append(court.fade(s)).append(", AIR");
            for (int p = 0; p < counts[1]; p++) {
                all.append(' ').append(court.air(p, s));
            }
        }
        for (int w = 0; w < counts[2]; w++) {
            all.append("\nWITNESS ").append(court.witness(w, 0)).append(' ').append(court.witness(w, 1)).append(' ')
                    .append(court.witness(w, 2)).append(", COAT");
            for (int s = 0; s < counts[0]; s++) {
                all.append(' ').append(court.coat(w, s));
            }
        }
        for (int c = 0; c < counts[5]; c++) {
            all.append("\nCLOTH ").append(court.box(c, 0)).append(' ').append(court.box(c, 1)).append(' ')
                    .append(court.box(c, 2)).append(", has");
            for (int s = 0; s < counts[0]; s++) {
                all.append(' ').append(court.cloth(c, s));
            }
        }
        return all.toString();
    }

    static String written(ScentCourt court) {
        StringBuilder text = new StringBuilder();
        for (int i = 0; court.byteAt(i) != NONE; i++) {
            text.append((char) court.byteAt(i));
        }
        return text.toString();
    }

    static int drowned(ScentCourt court, int... row) {
        Check.tape(court, Check.bytes(row));
        return court.drowned();
    }

    static int was(ScentCourt court, int w, int n, int... told) {
        Check.tape(court, Check.bytes(told));
        return court.was(w, n);
    }

    static int changed(ScentCourt court, int... told) {
        Check.tape(court, Check.bytes(told));
        return court.changed();
    }
}
