/** Promise by promise: ordinary inputs, the edges that the document names, wrong inputs; worked out by hand. */
public final class PromisesTest {
    private static final Check CHECK = new Check("PromisesTest");
    private static final String SCENTS = "scent rose 1;scent soot 0;scent fat 3;";
    private static final String HILL = SCENTS + "place garden rose 4;place kitchen fat 9 soot 2;place hall;"
            + "smoke fat kitchen hall;smoke soot kitchen garden;"
            + "witness a 2 garden;witness b 1 kitchen;witness c 3 hall;went a 3 kitchen;rain 4;";
    // PLACES of one SCENT each, COATS that never fade: what a CLOTH has is told by where one was.
    private static final String PLAIN = "scent s 0;scent t 0;place p s 1;place q t 1;place o;witness a 1 p;witness b 1 q;"
            + "witness c 1 o;";
    private static final int FAR = Integer.MAX_VALUE;
    private static final int DEEP = Integer.MIN_VALUE;

    private PromisesTest() {
    }

    public static void main(String[] args) {
        begins();
        tape();
        hills();
        airs();
        looks();
        acts();
        hours();
        undoes();
        orders();
        noses();
        drowned();
        was();
        changed();
        finds();
        cleans();
        pleas();
        draws();
        writes();
        sentences();
        images();
        counts();
        CHECK.end();
    }

    private static void due(String what, long got, long due) {
        CHECK.same(what, got, due);
    }

    private static void due(String what, boolean got, boolean due) {
        CHECK.same(what, got, due);
    }

    private static ScentCourt court(String hill) {
        ScentCourt court = new ScentCourt();
        int lines = Check.hill(court, hill);
        due("LINES of " + hill, lines, hill.chars().filter(sign -> sign == ';').count());
        return court;
    }

    private static void coat(ScentCourt court, int w, int... much) {
        for (int s = 0; s < much.length; s++) {
            due("COAT " + w + ", SCENT " + s + " at HOUR " + court.count(4), court.coat(w, s), much[s]);
        }
    }

    private static void cloth(ScentCourt court, int c, int... much) {
        for (int s = 0; s < much.length; s++) {
            due("CLOTH " + c + ", SCENT " + s + " at HOUR " + court.count(4), court.cloth(c, s), much[s]);
        }
    }

    /** Promise 1. */
    private static void begins() {
        ScentCourt court = new ScentCourt();
        due("NONE", ScentCourt.NONE, -1);
        for (int what = 0; what <= 6; what++) {
            due("count of a new one " + what, court.count(what), 0);
        }
        due("nothing undone", court.undo(), -1);
        due("no FAULT", court.fault(), 0);
        due("HOURS without anybody", court.on(2), 2);
        due("the empty HILL", court.hill(), 0);
        due("the HOUR of a new HILL", court.count(4), 0);
    }

    /** Promises 2, 3. */
    private static void tape() {
        ScentCourt court = new ScentCourt();
        Check.hill(court, "scent s 0;place p s 1;witness a 1 p;");
        court.on(1);
        due("twenty bytes", court.feed(0x61207765, 0x61727320, 0x613b0000, 0, 0), 20);
        due("end", court.end(10), true);
        due("the highest byte first", court.pleas(), -1);
        due("no FAULT in them", court.fault(), 0);
        for (int bytes = 20; bytes <= 940; bytes += 20) {
            due("feed", court.feed(0x20202020, 0x20202020, 0x20202020, 0x20202020, 0x20202020), bytes);
        }
        due("a full tape", court.feed(0, 0, 0, 0, 0), -1);
        due("none came", court.count(6), 940);
        due("end behind the tape", court.end(941), false);
        due("end below 0", court.end(-1), false);
        due("end far", court.end(FAR), false);
        due("end deep", court.end(DEEP), false);
        due("nothing changed", court.count(6), 940);
        due("end where it is", court.end(940), true);
        due("end", court.end(921), true);
        due("a byte too many", court.feed(0, 0, 0, 0, 0), -1);
        due("end", court.end(920), true);
        due("feed up to the last", court.feed(0, 0, 0, 0, 0), 940);
        due("end", court.end(0), true);
        due("none left", court.count(6), 0);
    }

    /** Promises 4, 5. */
    private static void hills() {
        ScentCourt court = court(HILL);
        due("no FAULT", court.fault(), 0);
        due("the tape is empty", court.count(6), 0);
        court.on(3);
        court.send(0, 0);
        Check.sentence(court, "own");
        Check.tape(court, "place p");
        due("a FAULT", court.hill(), -8);
        due("its kind", court.fault(), 1);
        due("the tape is empty with a FAULT", court.count(6), 0);
        due("the HILL stays", court.count(2), 3);
        due("the HOUR stays", court.count(4), 3);
        due("acts stay", court.undo(), 1);
        due("the SENTENCE stays", court.said(-1), 3);
        court.send(0, 0);
        due("a new HILL", Check.hill(court, HILL), 13);
        due("HOUR 0", court.count(4), 0);
        due("no CLOTHS", court.count(5), 0);
        due("no SENTENCE", court.said(-1), -1);
        due("nothing can be undone", court.undo(), -1);
        coat(court, 1, 0, 0, 0);
        due("blanks 32 and 10", Check.hill(court, "\n scent\ns 1 ;\n\n  place p s\n2;\n"), 2);
        due("hardly a blank", Check.hill(court, "scent s 1;place p s 2;witness a 009 p;"), 3);
        due("NUMBERS of three digits", court.witness(0, 2), 9);
        due("it is shown", Check.hill(court, "\t"), -1);
        due("a tab is no TOKEN", court.fault(), 1);
        due("a text of 900 bytes", Check.hill(court, "rain 1" + Check.repeat(" ", 893) + ";"), 1);
        due("a text of 901 bytes", Check.hill(court, "rain 1" + Check.repeat(" ", 893) + "; "), -901);
        due("its kind", court.fault(), 1);
        due("a FAULT ahead", Check.hill(court, "rain 0" + Check.repeat(" ", 893) + "; "), -6);
        due("its kind", court.fault(), 2);
        due("a TOKEN that is read whole", Check.hill(court, Check.repeat(" ", 894) + "rain 6123"), -900);
        due("its kind", court.fault(), 1);
        due("a NUMBER that is read whole", Check.hill(court, Check.repeat(" ", 894) + "rain 61;"), -900);
        due("its kind", court.fault(), 2);
        due("a good one that is read whole", Check.hill(court, Check.repeat(" ", 894) + "rain 60;"), -901);
        due("one that begins behind 900", Check.hill(court, "rain" + Check.repeat(" ", 896) + "61;"), -901);
        due("its kind", court.fault(), 1);
        due("the end", Check.hill(court, "rain 6  "), -9);
        hillFaults(new ScentCourt());
    }

    private static void fault(ScentCourt court, String text, int place, int kind) {
        due("FAULT of " + text, Check.hill(court, text), -1 - place);
        due("its kind: " + text, court.fault(), kind);
    }

    private static void hillFaults(ScentCourt court) {
        fault(court, ";", 0, 1);
        fault(court, "scents s 1;", 0, 1);
        fault(court, "at s 1;", 0, 1);
        fault(court, "scent 1 1;", 6, 1);
        fault(court, "scent keep 1;", 6, 1);
        fault(court, "scent abcdefgh 1;", 6, 1);
        fault(court, "scent a1 1;", 6, 1);
        fault(court, "scent A 1;", 6, 1);
        fault(court, "scent s s;", 8, 1);
        fault(court, "scent s 1111;", 8, 1);
        fault(court, "scent s 10;", 8, 2);
        fault(court, "scent s 1.", 9, 1);
        fault(court, "scent s 1 2;", 10, 1);
        fault(court, "scent s 1;;", 10, 1);
        fault(court, "place s;scent s 1;", 14, 3);
        fault(court, "place p s 1;scent s 1;", 8, 3);
        fault(court, "scent s 1;place p p 1;", 18, 3);
        fault(court, "scent s 1;place p s;", 19, 1);
        fault(court, "scent s 1;place p s 0;", 20, 2);
        fault(court, "scent s 1;place p s 10;", 20, 2);
        fault(court, "scent s 1;place p s 1 s 0;", 22, 3);
        fault(court, "scent s 1;place p s 1 rain 1;", 22, 1);
        fault(court, "scent s 1;place p;place q;smoke p p q;", 32, 3);
        fault(court, "scent s 1;place p;place q;smoke s p p;", 36, 3);
        fault(court, "scent s 1;place p;place q;smoke s p q;smoke s q p;smoke s p q;", 60, 3);
        fault(court, "place p;witness a 10 p;", 18, 2);
        fault(court, "place p;witness p 1 p;", 16, 3);
        fault(court, "place p;witness a 1 a;", 20, 3);
        fault(court, "place p;witness a 1;", 19, 1);
        fault(court, "place p;witness a 1 p;went p 1 p;", 27, 3);
        fault(court, "place p;witness a 1 p;went a 61 p;", 29, 2);
        fault(court, "place p;witness a 1 p;went a 1 p;went a 1 z;", 40, 3);
        fault(court, "rain 0;", 5, 2);
        fault(court, "rain 60;rain 61;", 13, 2);
        fault(court, "rain 60;rain 60;", 13, 3);
        fault(court, Check.repeat("scent a 1;", 2), 16, 3);
        fault(court, "scent a 1;scent b 1;scent c 1;scent d 1;scent e 1;scent f 1;scent ; ", 60, 4);
        fault(court, "place a;place b;place c;place d;place e;place f;place", 48, 4);
        fault(court, "rain 1;rain 2;rain 3;rain 4;rain 5;rain 6;rain 1;", 42, 4);
        String six = "scent a 1;scent b 1;scent c 1;scent d 1;scent e 1;scent f 1;place p a 1 b 1 c 1 d 1 e 1 f 1";
        due("all SCENTS in a PLACE", Check.hill(court, six + ";"), 7);
        fault(court, six + " a 1;", six.length() + 1, 3);
        StringBuilder went = new StringBuilder("place p;witness a 1 p;");
        for (int hour = 10; hour < 30; hour++) {
            went.append("went a ").append(hour).append(" p;");
        }
        due("20 'went'", Check.hill(court, went.toString()), 22);
        fault(court, went + "went a 30 p;", 22 + 20 * 12, 4);
        StringBuilder smokes = new StringBuilder("scent s 1;place a;place b;place c;place d;");
        for (String to : new String[] {"a b", "b a", "a c", "c a", "b c", "c b"}) {
            smokes.append("smoke s ").append(to).append(';');
        }
        due("6 smokes", Check.hill(court, smokes.toString()), 11);
        fault(court, smokes + "smoke s a d;", 42 + 6 * 12, 4);
        due("no FAULT of a HILL again", Check.hill(court, ""), 0);
        due("its kind", court.fault(), 0);
    }

    /** Promises 6, 7, 34. */
    private static void airs() {
        ScentCourt court = court(HILL);
        int[][] airs = {{4, 1, 0}, {0, 2, 9}, {0, 0, 4}};
        for (int p = 0; p < 3; p++) {
            for (int s = 0; s < 3; s++) {
                due("AIR " + p + " " + s, court.air(p, s), airs[p][s]);
            }
        }
        for (int wrong : new int[] {-1, 3, 6, FAR, DEEP}) {
            due("no such PLACE " + wrong, Throws.air(court, wrong, 0), true);
            due("no such SCENT " + wrong, Throws.air(court, 0, wrong), true);
            due("FADE of none", court.fade(wrong), -1);
            due("source of none", court.source(wrong), -1);
        }
        due("FADE", court.fade(0), 1);
        due("FADE 0", court.fade(1), 0);
        due("FADE", court.fade(2), 3);
        due("source", court.source(0), 0);
        due("source", court.source(1), 1);
        due("source of a SCENT that is nowhere", court("scent s 1;place p;").source(0), -1);
        due("source without PLACES", court("scent s 1;").source(0), -1);
        due("source of like ones", court("scent s 1;place n;place p s 3;place q s 3;").source(0), 1);
        ScentCourt smoky = court("scent s 1;place p s 9;place q s 7;place r s 1;smoke s p q;smoke s q p;smoke s r p;");
        due("smokes of what is told alone, cut", smoky.air(0, 0), 9 + 3);
        due("smokes of what is told alone, cut", smoky.air(1, 0), 7 + 4);
        due("where it comes from has all", smoky.air(2, 0), 1);
        due("source with smoke", smoky.source(0), 0);
    }

    /** Promises 8, 9, 10, 11. */
    private static void looks() {
        ScentCourt court = court(HILL);
        due("PLACE", court.witness(1, 0), 1);
        due("COAT", court.witness(1, 1), 1);
        due("KEEP", court.witness(2, 2), 3);
        due("all SCENTS", court.witness(1, 3), 0);
        due("strongest of a clean one", court.witness(1, 4), -1);
        court.on(2);
        due("all SCENTS", court.witness(1, 3), 19);
        due("strongest", court.witness(1, 4), 2);
        court.change(0, 1);
        due("whose COAT", court.witness(0, 1), 1);
        due("KEEP of its own COAT", court.witness(0, 2), 2);
        due("all SCENTS of what it wears", court.witness(0, 3), 19);
        due("strongest of what it wears", court.witness(0, 4), 2);
        due("COAT by its number", court.coat(0, 0), 7);
        due("a CLOTH", court.send(0, 2), 0);
        court.on(1);
        court.send(2, 1);
        int[] looks = {1, 2, 2, 2, 16};
        for (int what = 0; what < 5; what++) {
            due("CLOTH " + what, court.box(0, what), looks[what]);
        }
        due("cut later", court.box(1, 2), 3);
        cloth(court, 0, 0, 4, 12);
        for (int wrong : new int[] {-1, 3, 8, FAR, DEEP}) {
            due("no such WITNESS " + wrong, Throws.witness(court, wrong, 0), true);
            due("no such COAT", court.coat(wrong, 0), -1);
            due("no SCENT on a COAT", court.coat(0, wrong), -1);
            due("no such CLOTH", court.cloth(wrong, 0), -1);
            due("no SCENT on a CLOTH", court.cloth(0, wrong), -1);
            due("nothing of no CLOTH", court.box(wrong, 0), -1);
        }
        due("no CLOTH yet", court.cloth(2, 0), -1);
        for (int wrong : new int[] {-1, 5, FAR, DEEP}) {
            due("no such what " + wrong, Throws.witness(court, 0, wrong), true);
            due("nothing of a CLOTH", court.box(0, wrong), -1);
        }
        ScentCourt like = court("scent s 0;scent t 0;place p s 2 t 2;witness a 1 p;");
        like.send(0, 0);
        due("strongest of a clean CLOTH", like.box(0, 3), -1);
        due("all of a clean CLOTH", like.box(0, 4), 0);
        like.on(1);
        like.send(0, 1);
        due("of like ones the first", like.witness(0, 4), 0);
        due("of like ones the first", like.box(1, 3), 0);
    }

    /** Promises 12, 13, 14, 15, 16. */
    private static void acts() {
        ScentCourt court = court(HILL);
        due("goes", court.goes(0, 2), true);
        due("is there", court.witness(0, 0), 2);
        due("goes where it is", court.goes(0, 2), true);
        due("CHANGE", court.change(0, 2), true);
        due("wears", court.witness(2, 1), 0);
        due("one alone", court.change(1, 1), false);
        court.on(1);
        coat(court, 0, 0, 0, 4);
        coat(court, 2, 0, 0, 4);
        due("SOAP", court.soap(2), 4);
        coat(court, 0, 0, 0, 0);
        coat(court, 2, 0, 0, 4);
        due("SOAP again", court.soap(2), 0);
        for (int wrong : new int[] {-1, 3, FAR, DEEP}) {
            due("no such WITNESS goes", court.goes(wrong, 0), false);
            due("no such PLACE", court.goes(0, wrong), false);
            due("no such first", court.change(wrong, 0), false);
            due("no such second", court.change(0, wrong), false);
            due("none to wash", court.soap(wrong), -1);
            due("none to send", court.send(wrong, 0), -1);
            due("no such BOX", court.send(0, wrong), -1);
            due("no such CLOTH", court.move(wrong, 0), false);
        }
        for (int c = 0; c < 8; c++) {
            due("CLOTH", court.send(c % 3, c % 3), c);
        }
        due("there are 8", court.send(0, 0), -1);
        due("8 CLOTHS", court.count(5), 8);
        due("of the COAT that is worn", court.box(2, 0), 0);
        due("moved", court.move(1, 2), true);
        due("the BOX", court.box(1, 1), 2);
        due("it is there", court.move(1, 2), false);
        due("no such BOX", court.move(1, 3), false);
        due("no such BOX", court.move(1, -1), false);
        due("no such CLOTH", court.move(8, 1), false);
    }

    /** Promise 17. */
    private static void hours() {
        ScentCourt court = court(HILL);
        due("an HOUR", court.on(1), 1);
        coat(court, 0, 4, 1, 0);
        coat(court, 1, 0, 2, 9);
        coat(court, 2, 0, 0, 4);
        due("fading by KEEP", court.on(1), 2);
        coat(court, 0, 7, 2, 0);
        coat(court, 1, 0, 4, 15);
        court.send(0, 0);
        court.send(1, 0);
        court.send(0, 1);
        due("'went'", court.on(1), 3);
        due("is there", court.witness(0, 0), 1);
        coat(court, 0, 7, 4, 9);
        coat(court, 2, 0, 0, 9);
        cloth(court, 0, 7, 3, 1);
        cloth(court, 1, 1, 4, 12);
        cloth(court, 2, 7, 2, 0);
        due("rain", court.on(1), 4);
        coat(court, 0, 4, 4, 13);
        coat(court, 1, 0, 6, 25);
        coat(court, 2, 0, 0, 11);
        cloth(court, 0, 6, 4, 1);
        cloth(court, 1, 1, 4, 9);
        cloth(court, 2, 6, 2, 0);
        for (int wrong : new int[] {0, -1, 61, FAR, DEEP}) {
            due("not as told " + wrong, court.on(wrong), -1);
        }
        due("60 at once", court.on(60), 64);
        due("99 at most", court.coat(1, 2), 99);
        due("no fading to hold it", court.coat(1, 1), 99);
        for (int hour = 124; hour < 999; hour += 60) {
            due("on", court.on(60), hour);
        }
        due("above 999", court.on(36), -1);
        due("the HOUR stays", court.count(4), 964);
        due("999", court.on(35), 999);
        due("above 999", court.on(1), -1);
        wentAndRain();
    }

    private static void wentAndRain() {
        ScentCourt court = court("scent s 0;place p s 5;place o;witness a 9 p;witness b 9 o;went a 2 o;rain 1;rain 2;rain 3;");
        court.change(0, 1);
        court.on(1);
        coat(court, 0, 0);
        coat(court, 1, 5);
        court.on(1);
        coat(court, 1, 3);
        due("who 'went' is there", court.witness(0, 0), 1);
        court.on(1);
        coat(court, 1, 1);
        court.goes(0, 0);
        court.on(1);
        coat(court, 1, 6);
        ScentCourt alone = court("scent s 9;scent t 0;place p s 9 t 1;witness a 1 p;rain 2;");
        alone.on(1);
        alone.send(0, 0);
        alone.on(1);
        coat(alone, 0, 9, 1);
        cloth(alone, 0, 0, 1);
        alone.send(0, 0);
        alone.on(1);
        cloth(alone, 0, 0, 1);
        cloth(alone, 1, 0, 1);
    }

    /** Promise 18. */
    private static void undoes() {
        ScentCourt court = court(HILL);
        due("none is", court.undo(), -1);
        court.goes(0, 2);
        court.change(0, 1);
        court.on(2);
        court.send(0, 0);
        court.soap(0);
        court.move(0, 1);
        court.drawn(3, 7);
        due("what is no act", court.goes(9, 9), false);
        due("what is no act", court.move(0, 7), false);
        due("what is no act", court.on(0), -1);
        due("drawn undone", court.undo(), 6);
        due("the HOUR", court.count(4), 2);
        due("the BOX", court.box(0, 1), 1);
        due("move undone", court.undo(), 5);
        due("the BOX", court.box(0, 1), 0);
        due("clean", court.witness(0, 3), 0);
        due("soap undone", court.undo(), 4);
        due("no more clean", court.witness(0, 3) > 0, true);
        due("send undone", court.undo(), 3);
        due("no CLOTHS", court.count(5), 0);
        due("on undone", court.undo(), 2);
        due("HOUR 0", court.count(4), 0);
        coat(court, 1, 0, 0, 0);
        due("change undone", court.undo(), 1);
        due("its own", court.witness(0, 1), 0);
        due("goes undone", court.undo(), 0);
        due("where it was", court.witness(0, 0), 0);
        due("none is", court.undo(), -1);
        for (int i = 0; i < 10; i++) {
            court.on(1);
        }
        for (int more = 7; more >= 0; more--) {
            due("8 are kept", court.undo(), more);
        }
        due("no more", court.undo(), -1);
        due("the HOUR", court.count(4), 2);
        court.soap(0);
        Check.sentence(court, "own");
        due("SOAP of 0 can be undone", court.undo(), 0);
        due("the SENTENCE is no act", court.said(-1), 3);
    }

    /** A court whose CLOTHS are of WITNESS 0 and have so much of two SCENTS. */
    private static ScentCourt cloths(int[]... much) {
        ScentCourt court = court(PLAIN);
        for (int[] has : much) {
            court.soap(0);
            for (int s = 0; s < has.length; s++) {
                court.goes(0, s);
                if (has[s] > 0) {
                    court.on(has[s]);
                }
            }
            court.send(0, 0);
        }
        return court;
    }

    /** CLOTHS as told: cut from COATS that are filled first, so that no HOUR passes behind the first. */
    private static ScentCourt cut(int[]... much) {
        StringBuilder hill = new StringBuilder("scent s 0;scent t 0;");
        for (int i = 0; i < much.length; i++) {
            hill.append("place ").append((char) ('a' + i));
            hill.append(much[i][0] > 0 ? " s " + much[i][0] : "").append(much[i][1] > 0 ? " t " + much[i][1] : "");
            hill.append(";witness w").append((char) ('a' + i)).append(" 1 ").append((char) ('a' + i)).append(';');
        }
        ScentCourt court = court(hill.toString());
        court.on(1);
        for (int i = 0; i < much.length; i++) {
            court.send(i, 0);
        }
        return court;
    }

    private static void row(ScentCourt court, int... cloths) {
        due("ORDER", court.order(), cloths.length);
        for (int i = 0; i < cloths.length; i++) {
            due("opened " + i, court.opened(i), cloths[i]);
        }
        due("behind the last", court.opened(cloths.length), -1);
        due("ahead of the first", court.opened(-1), -1);
    }

    /** Promises 19, 20. */
    private static void orders() {
        ScentCourt none = court(PLAIN);
        due("ahead of any", none.opened(0), -1);
        due("no CLOTHS", none.order(), 0);
        due("none opened", none.opened(0), -1);
        row(cut(new int[] {3, 0}), 0);
        row(cut(new int[] {3, 0}, new int[] {0, 3}), 0, 1);
        row(cut(new int[] {5, 0}, new int[] {3, 0}), 1, 0);
        // 4 behind 8 halves to as much: drowned; 5 is more.
        row(cut(new int[] {8, 0}, new int[] {5, 0}, new int[] {0, 2}), 0, 2, 1);
        ScentCourt drowning = cut(new int[] {8, 0}, new int[] {8, 0});
        due("no such row", drowning.order(), -1);
        due("NOSES", drowning.noses(), 2);
        ScentCourt court = cut(new int[] {5, 0}, new int[] {3, 0});
        row(court, 1, 0);
        court.soap(0);
        court.send(0, 1);
        due("a clean CLOTH", court.order(), -1);
        due("of the latest that was not NONE", court.opened(0), 1);
        due("far", court.opened(FAR), -1);
        due("deep", court.opened(DEEP), -1);
        Check.hill(court, PLAIN);
        due("what was told last stays", court.opened(1), 0);
        due("no CLOTHS now", court.order(), 0);
        due("none opened", court.opened(0), -1);
        // Of like ones the first SCENT is the strongest: with t it would not be drowned.
        due("like ones", cut(new int[] {4, 4}, new int[] {4, 5}).order(), 2);
        due("like ones", cut(new int[] {4, 4}, new int[] {4, 4}).order(), -1);
    }

    /** Promise 21. */
    private static void noses() {
        due("no CLOTHS", court(PLAIN).noses(), 0);
        due("one", cut(new int[] {2, 1}).noses(), 1);
        due("one for a row", cut(new int[] {3, 0}, new int[] {2, 0}, new int[] {1, 0}).noses(), 1);
        due("as many as CLOTHS", cut(new int[] {3, 3}, new int[] {3, 3}, new int[] {3, 3}).noses(), 3);
        due("two share four", cut(new int[] {3, 3}, new int[] {3, 3}, new int[] {4, 4}, new int[] {4, 4}).noses(), 2);
        ScentCourt clean = cut(new int[] {3, 3}, new int[] {0, 0});
        due("a clean CLOTH", clean.noses(), -1);
        ScentCourt court = cut(new int[] {5, 0}, new int[] {3, 0});
        court.order();
        court.noses();
        due("noses() tells no row", court.opened(0), 1);
    }

    private static int drowned(ScentCourt court, int... row) {
        Check.tape(court, Check.bytes(row));
        int answer = court.drowned();
        due("the tape is empty", court.count(6), 0);
        return answer;
    }

    /** Promises 22, 23. */
    private static void drowned() {
        ScentCourt court = cut(new int[] {8, 0}, new int[] {5, 3}, new int[] {0, 2}, new int[] {0, 0});
        due("ahead of any", court.remains(0), -1);
        due("no row", drowned(court), -2);
        due("ahead of any", court.remains(0), -1);
        due("one alone", drowned(court, 0), -1);
        due("REMAINS", court.remains(0), 8);
        due("the second", drowned(court, 0, 1), 1);
        due("the greater", court.remains(0), 5);
        due("REMAINS", court.remains(1), 3);
        due("halved between", drowned(court, 0, 2, 1), -1);
        due("REMAINS", court.remains(0), 5);
        due("a clean one", drowned(court, 3), 0);
        due("nothing REMAINS", court.remains(0), 0);
        due("all of the row is opened", drowned(court, 0, 3, 2), 1);
        due("halved twice", court.remains(0), 2);
        due("not halved", court.remains(1), 2);
        due("twice the same", drowned(court, 0, 0), -2);
        due("no such CLOTH", drowned(court, 0, 4), -2);
        due("no such CLOTH", drowned(court, 255), -2);
        due("nine of them", drowned(court, 0, 1, 2, 3, 4, 5, 6, 7, 8), -2);
        due("of the latest that was not -2", court.remains(0), 2);
        due("no such SCENT", court.remains(2), -1);
        due("no such SCENT", court.remains(-1), -1);
        due("far", court.remains(FAR), -1);
        Check.hill(court, "scent x 1;");
        due("it stays", court.remains(0), 2);
        due("no such SCENT now", court.remains(1), -1);
        Check.hill(court, SCENTS);
        due("a SCENT that was none then", court.remains(2), 0);
        ScentCourt all = cut(new int[] {1, 0}, new int[] {2, 0}, new int[] {3, 0}, new int[] {4, 0}, new int[] {5, 0},
                new int[] {6, 0});
        due("up", drowned(all, 0, 1, 2, 3, 4, 5), -1);
        due("down", drowned(all, 5, 4, 3, 2, 1, 0), 1);
        row(all, 0, 1, 2, 3, 4, 5);
        ScentCourt later = cloths(new int[] {3, 0}, new int[] {0, 4});
        due("as they are now", drowned(later, 0, 1), -1);
        due("halved", later.remains(0), 1);
        later.on(1);
        due("an HOUR later", drowned(later, 0), -1);
        due("grown alike", later.remains(1), 1);
    }

    private static int was(ScentCourt court, int w, int n, int... told) {
        Check.tape(court, Check.bytes(told));
        int answer = court.was(w, n);
        due("the tape is empty", court.count(6), 0);
        return answer;
    }

    /** Promises 24, 25, 26. */
    private static void was() {
        ScentCourt court = court(PLAIN);
        due("ahead of any", court.rows(1, 0), -1);
        due("ahead of any", court.first(1), -1);
        due("one of each in two HOURS", was(court, 0, 2, 1, 1), 2);
        due("PLACE 0 at HOUR 1", court.rows(1, 0), 1);
        due("PLACE 1 at HOUR 2", court.rows(2, 1), 1);
        due("PLACE 2", court.rows(1, 2), 0);
        due("the first", court.first(1), 0);
        due("the first", court.first(2), 1);
        for (int wrong : new int[] {0, 3, -1, FAR, DEEP}) {
            due("no such HOUR", court.rows(wrong, 0), -1);
            due("no such HOUR", court.first(wrong), -1);
        }
        for (int wrong : new int[] {3, -1, FAR, DEEP}) {
            due("no such PLACE", court.rows(1, wrong), -1);
        }
        for (int wrong : new int[] {0, 7, -1, FAR, DEEP}) {
            due("not as many HOURS", was(court, 0, wrong, 1, 1), -1);
        }
        due("no such WITNESS", was(court, 3, 2, 1, 1), -1);
        due("no such WITNESS", was(court, -1, 2, 1, 1), -1);
        due("a byte too few", was(court, 0, 2, 1), -1);
        due("a byte too many", was(court, 0, 2, 1, 1, 0), -1);
        due("the latest that was not NONE", court.rows(2, 0), 1);
        due("none", was(court, 0, 3, 1, 9), 0);
        due("of none", court.rows(3, 0), 0);
        due("the latest that was 1 or more", court.first(2), 1);
        due("that had no third", court.first(3), -1);
        due("a byte above 99", was(court, 0, 3, 255, 0), 0);
        due("six HOURS", was(court, 2, 6, 3, 2), 60);
        due("half of them", court.rows(6, 0), 30);
        due("the first", court.first(4), 1);
        due("the last of the first", court.first(6), 2);
        Check.hill(court, "place x;");
        due("PLACES there were then", court.rows(6, 2), 10);
        due("no PLACE then", court.rows(6, 3), -1);
        due("the first stays", court.first(4), 1);
        ScentCourt fading = court("scent s 3;place p s 4;place o;witness a 2 o;rain 1;rain 2;went a 1 o;");
        due("it fades at HOUR 2, without rain", was(fading, 0, 2, 5), 1);
        due("it was there twice", fading.rows(2, 0), 1);
        due("0 at least", was(fading, 0, 2, 4), 1);
        due("at the second alone", fading.rows(1, 1), 1);
        fading.on(9);
        due("whatever the HOUR is", was(fading, 0, 2, 1), 1);
        due("at the first alone", fading.rows(1, 0), 1);
        ScentCourt strong = court("scent s 0;place p s 9;place q s 9;place r s 9;place t s 9;smoke s q p;smoke s r p;"
                + "smoke s t p;witness a 1 p;");
        due("99 at most", was(strong, 0, 5, 99), 1);
        due("always there", strong.rows(5, 0), 1);
        ScentCourt bare = court("place p;place q;witness a 1 p;");
        due("no SCENTS: all rows", was(bare, 0, 3), 8);
        due("half of them", bare.rows(2, 1), 4);
    }

    private static int changed(ScentCourt court, int... told) {
        Check.tape(court, Check.bytes(told));
        int answer = court.changed();
        due("the tape is empty", court.count(6), 0);
        return answer;
    }

    /** Promises 27, 28. */
    private static void changed() {
        ScentCourt court = court(PLAIN);
        due("ahead of any", court.changeAt(0), -1);
        due("HOUR 0: no way", changed(court, 0, 0, 0, 0, 0, 0), 0);
        court.on(3);
        court.goes(0, 2);
        court.soap(1);
        court.change(0, 2);
        due("a and b ahead of HOUR 2", changed(court, 1, 2, 2, 1, 0, 0), 1);
        due("the way", court.changeAt(0), 1002);
        due("no second", court.changeAt(1), -1);
        due("b and c ahead of HOUR 1", changed(court, 3, 0, 0, 0, 0, 3), 1);
        due("the way", court.changeAt(0), 12001);
        due("nobody did", changed(court, 3, 0, 0, 3, 0, 0), 0);
        due("none", court.changeAt(0), -1);
        changed(court, 2, 0, 0, 3, 1, 0);
        due("a and c ahead of HOUR 3", court.changeAt(0), 2003);
        due("a byte too few", changed(court, 3, 0, 0, 3, 0), -1);
        due("a byte too many", changed(court, 3, 0, 0, 3, 0, 0, 0), -1);
        due("of the latest that was not NONE", court.changeAt(0), 2003);
        due("deep", court.changeAt(DEEP), -1);
        due("far", court.changeAt(FAR), -1);
        due("below 0", court.changeAt(-1), -1);
        ScentCourt like = court("scent s 0;place p s 1;witness a 1 p;witness b 1 p;witness c 1 p;rain 2;");
        like.on(20);
        due("all ways: 3 twos, 20 HOURS", changed(like, 19, 19, 19), 60);
        due("by the first two", like.changeAt(19), 1020);
        due("then the next", like.changeAt(20), 2001);
        due("the 40th", like.changeAt(39), 2020);
        due("behind the 40th", like.changeAt(40), -1);
        like.on(40);
        due("HOUR 60", changed(like, 59, 59, 59), 180);
        like.on(1);
        due("HOUR 61", changed(like, 60, 60, 60), -1);
        due("the latest stays", like.changeAt(39), 1040);
        ScentCourt told = court("scent s 1;place p s 5;place o;witness a 2 p;witness b 3 o;went b 3 p;rain 2;");
        told.on(3);
        told.drawn(1, 3);
        // Changed ahead of HOUR 2 a's COAT has 5, 5-1-2 in rain, 2+5 and 7-1+5; b's 0, 5, 5-1+5 and 9+5.
        due("rain and 'went' as told, no draws", changed(told, 11, 14), 1);
        due("the way", told.changeAt(0), 1002);
    }

    /** Promises 29, 30, 31, 32, 33, 35, 36. */
    private static void finds() {
        ScentCourt court = court(HILL);
        due("fewer than two CLOTHS", court.alike(), -1);
        court.on(2);
        court.send(1, 0);
        due("fewer than two CLOTHS", court.alike(), -1);
        court.send(0, 1);
        court.send(2, 2);
        due("unlike 0 2 8", court.unlike(2, 2), 0);
        due("unlike b's and a's", court.unlike(0, 0), 7 + 2 + 15);
        due("DOG", court.dog(0), 1);
        due("DOG", court.dog(1), 0);
        due("alike: b's and c's", court.alike(), 2);
        court.send(0, 0);
        due("alike: a's twice", court.alike(), 13);
        court.send(2, 0);
        due("of like ones the first", court.alike(), 13);
        court.soap(0);
        court.soap(1);
        court.soap(2);
        due("DOG: of like ones the first", court.dog(0), 0);
        due("a DOG goes to COATS", court.unlike(0, 2), 19);
        due("kitchen", court.kitchen(0), 1);
        due("thread of b's", court.thread(0), 1);
        due("thread of a's", court.thread(1), 0);
        due("thread of c's", court.thread(2), 1);
        for (int wrong : new int[] {-1, 5, FAR, DEEP}) {
            due("no such CLOTH", court.dog(wrong), -1);
            due("no such CLOTH", court.unlike(wrong, 0), -1);
            due("no such CLOTH", court.thread(wrong), -1);
            due("no such COAT", court.unlike(0, wrong), -1);
            due("no such WITNESS", court.kitchen(wrong), -1);
            due("no such COAT", court.wearer(wrong), -1);
        }
        due("nobody alone", court.kitchen(3), -1);
        due("no strangers", court.strangers(), 0);
        court.change(0, 1);
        due("two strangers", court.strangers(), 1);
        court.change(1, 2);
        due("three strangers", court.strangers(), 2);
        due("who wears 0", court.wearer(0), 2);
        due("who wears 1", court.wearer(1), 0);
        due("who wears 2", court.wearer(2), 1);
        ScentCourt six = court("place p;witness a 1 p;witness b 1 p;witness c 1 p;witness d 1 p;witness e 1 p;witness f 1 p;");
        six.change(0, 1);
        six.change(2, 3);
        six.change(4, 5);
        due("three rings", six.strangers(), 3);
        six.change(1, 2);
        due("two rings", six.strangers(), 4);
        ScentCourt full = court("scent s 0;scent t 0;place p s 9;place q t 3;witness a 1 p;");
        due("kitchen of a clean one", full.kitchen(0), 0);
        full.on(10);
        due("90 and 9 are 99", full.kitchen(0), 0);
        full.on(1);
        due("no SCENT above 99", full.kitchen(0), 1);
        ScentCourt like = court("scent s 0;place o;place p s 2;place q s 2;witness a 1 o;");
        due("kitchen: of like ones the first", like.kitchen(0), 1);
        like.send(0, 0);
        due("thread of a clean CLOTH", like.thread(0), 0);
    }

    /** Promise 37. */
    private static void cleans() {
        ScentCourt court = court("scent s 2;scent t 0;place p s 5;place q t 1;place o;witness a 3 p;witness b 3 q;");
        court.on(1);
        court.send(0, 0);
        court.send(1, 1);
        due("at 3, 6 and 9", court.clean(0), 8);
        due("it never is", court.clean(1), -1);
        court.on(1);
        due("from now on", court.clean(0), 7);
        court.on(1);
        cloth(court, 0, 3, 0);
        due("from an HOUR of its KEEP on", court.clean(0), 6);
        court.on(5);
        due("the last HOUR ahead", court.clean(0), 1);
        court.on(1);
        due("clean now", court.clean(0), 0);
        court.send(0, 0);
        due("more than one lies there", court.clean(2) > 0, true);
        for (int wrong : new int[] {-1, 3, FAR, DEEP}) {
            due("no such CLOTH", court.clean(wrong), -1);
        }
        ScentCourt shared = court("scent s 2;place p s 5;place o;witness a 1 p;witness b 1 o;");
        shared.on(1);
        shared.send(0, 0);
        shared.send(1, 0);
        due("as if alone in its BOX", shared.clean(0), 3);
        due("clean as if alone", shared.clean(1), 0);
    }

    /** Promise 38. */
    private static void pleas() {
        ScentCourt court = court(HILL);
        court.on(1);
        court.change(0, 1);
        due("no PLEAS", Check.pleas(court, ""), -1);
        due("all are so", Check.pleas(court, "a at garden;b at kitchen;a wears b;a smells fat;b smells rose;c wears c;"), -1);
        due("at", Check.pleas(court, "a at garden;a at hall;a at hall;"), 1);
        due("smells", Check.pleas(court, "b smells fat;"), 0);
        due("wears", Check.pleas(court, "a wears b;b wears a;c wears a;"), 2);
        due("the tape is empty", court.count(6), 0);
        due("no FAULT", court.fault(), 0);
        String[] texts = {"a at rose;", "d at hall;", "hall at hall;", "a smells hall;", "a wears fat;", "a is c;", "a at;",
            "at at hall;", "a at hall", "a 1 hall;", "a smells keep;", "a at hall;;"};
        int[] places = {5, 0, 0, 9, 8, 2, 4, 0, 9, 2, 9, 10};
        int[] kinds = {3, 3, 3, 3, 3, 1, 1, 1, 1, 1, 1, 1};
        for (int i = 0; i < texts.length; i++) {
            due("PLEAS " + texts[i], Check.pleas(court, texts[i]), -2 - places[i]);
            due("its kind: " + texts[i], court.fault(), kinds[i]);
            due("the tape is empty with a FAULT", court.count(6), 0);
        }
        Check.hill(court, "place p;witness a 1 p;");
        due("30 LINES", Check.pleas(court, Check.repeat("a at p;", 30)), -1);
        due("31 LINES", Check.pleas(court, Check.repeat("a at p;", 31)), -2 - 210);
        due("its kind", court.fault(), 4);
        due("of one TOKEN the least", Check.pleas(court, Check.repeat("a at p;", 30) + "p at p;"), -2 - 210);
        due("its kind", court.fault(), 3);
        due("300 bytes", Check.pleas(court, "a at p;" + Check.repeat("\n", 293)), -1);
        due("301 bytes", Check.pleas(court, "a at p;" + Check.repeat("\n", 294)), -302);
        due("its kind", court.fault(), 1);
    }

    private static int x;

    private static int draw(int n) {
        x = x * 1103515245 + 12345;
        return (x >>> 8) % n;
    }

    /** Promises 39, 40, 41. */
    private static void draws() {
        ScentCourt court = court(HILL);
        due("ahead of any", court.weather(0), -1);
        for (int seed : new int[] {0, 1, -1, 77, FAR, DEEP}) {
            Check.hill(court, HILL);
            drawnBy(court, seed);
        }
        for (int wrong : new int[] {0, -1, 61, FAR, DEEP}) {
            int rains = court.weather(0);
            due("not as told", court.drawn(wrong, 1), -1);
            due("the latest weather stays", court.weather(0), rains);
        }
        for (int wrong : new int[] {-1, 3, FAR, DEEP}) {
            due("no such weather", court.weather(wrong), -1);
            due("no such WITNESS", court.odds(wrong, 1, 1), -1);
        }
        for (int wrong : new int[] {0, -1, 41, FAR, DEEP}) {
            due("no such years", court.odds(0, wrong, 1), -1);
        }
        due("no WITNESSES", court("place p;").drawn(1, 1), -1);
        due("no PLACES", court("scent s 1;").drawn(1, 1), -1);
        due("nobody's odds", court("place p;").odds(0, 1, 1), -1);
        Check.hill(court, HILL);
        for (int hour = 60; hour <= 960; hour += 60) {
            due("on", court.on(60), hour);
        }
        court.on(19);
        due("979 and 20", court.odds(0, 1, 1) >= 0, true);
        court.on(1);
        due("980 and 20", court.odds(0, 1, 1), -1);
        due("above 999", court.drawn(20, 1), -1);
        due("999", court.drawn(19, 1), 999);
        oddsAreYears();
    }

    /** The draws by hand; the HOURS by goes(), change() and on(), but those with rain. */
    private static void drawnBy(ScentCourt court, int seed) {
        ScentCourt other = court(HILL.replace("rain 4;", ""));
        int[] rains = new int[6];
        int changes = 0;
        int walks = 0;
        x = seed;
        StringBuilder hill = new StringBuilder(HILL.replace("rain 4;", ""));
        for (int hour = 1; hour <= 6; hour++) {
            for (int w = 0; w < 3; w++) {
                if (draw(3) == 0) {
                    other.goes(w, draw(3));
                    walks++;
                }
            }
            if (draw(8) == 0) {
                changes += other.change(draw(3), draw(3)) ? 1 : 0;
            }
            rains[hour - 1] = draw(5) == 0 ? 1 : 0;
            if (rains[hour - 1] == 1 && hour != 4) {
                hill.append("rain ").append(hour).append(';');
            }
            other.on(1);
        }
        due("the HOUR", court.drawn(6, seed), 6);
        due("rains", court.weather(0), java.util.Arrays.stream(rains).sum());
        due("CHANGES", court.weather(1), changes);
        due("how often somebody went", court.weather(2), walks);
        for (int w = 0; w < 3; w++) {
            due("is there", court.witness(w, 0), other.witness(w, 0));
            due("wears", court.witness(w, 1), other.witness(w, 1));
        }
        ScentCourt rainy = court(hill + "rain 4;");
        x = seed;
        for (int hour = 1; hour <= 6; hour++) {
            for (int w = 0; w < 3; w++) {
                if (draw(3) == 0) {
                    rainy.goes(w, draw(3));
                }
            }
            if (draw(8) == 0) {
                rainy.change(draw(3), draw(3));
            }
            draw(5);
            rainy.on(1);
        }
        for (int w = 0; w < 3; w++) {
            coat(court, w, rainy.coat(w, 0), rainy.coat(w, 1), rainy.coat(w, 2));
        }
    }

    private static void oddsAreYears() {
        ScentCourt court = court(HILL);
        court.on(5);
        court.change(0, 2);
        for (int seed : new int[] {5, FAR - 1}) {
            for (int w = 0; w < 3; w++) {
                int own = 0;
                for (int year = 0; year < 4; year++) {
                    court.drawn(20, seed + year);
                    own += court.witness(w, 1) == w ? 1 : 0;
                    court.undo();
                }
                due("odds", court.odds(w, 4, seed), own);
            }
        }
        due("odds are no act", court.count(4), 5);
        due("nor undone", court.undo(), 1);
        int walks = court.weather(2);
        court.odds(0, 40, 1);
        due("nor the latest drawn", court.weather(2), walks);
    }

    private static String written(ScentCourt court) {
        StringBuilder text = new StringBuilder();
        for (int i = 0; court.byteAt(i) != ScentCourt.NONE; i++) {
            text.append((char) court.byteAt(i));
        }
        return text.toString();
    }

    /** Promises 42, 43. */
    private static void writes() {
        ScentCourt court = court(HILL);
        due("ahead of any", court.byteAt(0), -1);
        due("a clean one", court.write(0), 0);
        due("no byte", court.byteAt(0), -1);
        court.on(2);
        due("a COAT", court.write(1), 14);
        CHECK.same("soot 4;fat 15;", written(court).equals("soot 4;fat 15;"), true);
        court.change(0, 1);
        due("by the COAT's number", court.write(0), 14);
        CHECK.same("rose 7;soot 2;", written(court).equals("rose 7;soot 2;"), true);
        for (int wrong : new int[] {-1, 3, FAR, DEEP}) {
            due("no such COAT", court.write(wrong), -1);
        }
        Check.hill(court, "");
        due("the text made last stays", court.byteAt(0), 'r');
        due("the last byte", court.byteAt(13), ';');
        due("behind it", court.byteAt(14), -1);
        due("far", court.byteAt(FAR), -1);
        due("below 0", court.byteAt(-1), -1);
        StringBuilder longest = new StringBuilder();
        StringBuilder place = new StringBuilder("place p");
        StringBuilder due = new StringBuilder();
        for (char letter = 'a'; letter < 'g'; letter++) {
            String name = "scenta" + letter;
            longest.append("scent ").append(name).append(" 0;");
            place.append(' ').append(name).append(" 9");
            due.append(name).append(" 99;");
        }
        ScentCourt full = court(longest.append(place).append(";witness a 1 p;").toString());
        full.on(60);
        due("the longest", full.write(0), 66);
        CHECK.same("the longest", written(full).equals(due.toString()), true);
        full.hill();
    }

    /** Promises 44, 45. */
    private static void sentences() {
        ScentCourt court = court(HILL);
        due("no SENTENCE", court.said(-1), -1);
        court.on(1);
        court.soap(2);
        court.change(0, 1);
        // a wears b's: soot 2, fat 9, KEEP 1; b wears a's: rose 4, soot 1, KEEP 2; c its own, clean, KEEP 3.
        say(court, "clean", 1, 2);
        say(court, "own", 1, 2);
        say(court, "not own", 2, 0, 1);
        say(court, "at kitchen", 1, 1);
        say(court, "smells soot", 1, 0, 1);
        say(court, "sum=11", 1, 0);
        say(court, "sum < 6", 1, 1, 2);
        say(court, "most > 4", 1, 0);
        say(court, "most=0", 1, 2);
        say(court, "keep = 1", 1, 0);
        say(court, "keep>1", 1, 1, 2);
        say(court, "keep>999", 1);
        say(court, "own or smells fat and smells rose", 3, 2);
        say(court, "(own or smells fat) and keep<3", 4, 0);
        say(court, "not not own", 3, 2);
        say(court, "not own and not smells fat", 4, 1);
        say(court, "not (own and clean) or clean", 5, 0, 1, 2);
        due("none such", court.said(3), -1);
        due("far", court.said(FAR), -1);
        due("deep", court.said(DEEP), -1);
        due("below NONE", court.said(-2), -1);
        court.change(0, 1);
        say(court, "own", 1, 0, 1, 2);
        court.change(0, 1);
        due("as it is now", court.said(-1), 1);
        sentenceFaults(court);
        due("it stays", court.said(-1), 1);
        due("20 ONES", Check.sentence(court, "own" + Check.repeat(" or own", 19)), 20);
        say(court, Check.repeat("clean or ", 19) + "sum>10", 20, 0, 2);
        due("8 within", Check.sentence(court, Check.repeat("not ", 7) + "own"), 8);
        due("not seven times", court.said(-1), 2);
        due("8 within", Check.sentence(court, Check.repeat("(", 7) + "own" + Check.repeat(")", 7)), 8);
        due("in brackets", court.said(-1), 1);
        due("200 bytes", Check.sentence(court, "own" + Check.repeat(" ", 197)), 1);
        due("201 bytes", Check.sentence(court, "own" + Check.repeat(" ", 198)), -201);
        due("its kind", court.fault(), 1);
    }

    private static void say(ScentCourt court, String text, int ones, int... of) {
        due("SENTENCE " + text, Check.sentence(court, text), ones);
        due("no FAULT: " + text, court.fault(), 0);
        due("the tape is empty", court.count(6), 0);
        due("said of how many: " + text, court.said(-1), of.length);
        for (int k = 0; k < of.length; k++) {
            due("said of: " + text, court.said(k), of[k]);
        }
        due("behind the last: " + text, court.said(of.length), -1);
    }

    private static void sentenceFaults(ScentCourt court) {
        String deep = Check.repeat("not ", 8);
        String many = "own" + Check.repeat(" or own", 19);
        String[] texts = {"", "  ", "own own", "own or", "or", "(own", "own)", "at", "at a", "at rose", "at not", "smells hall",
            "sum 4", "sum>own", "sum>1000", "not", "garden", "own;", deep + "own", deep + "garden", deep + "(own)",
            Check.repeat("(", 8) + "own", many + " and own", many + " and at", "(" + many + ")", "4"};
        int[] places = {0, 2, 4, 6, 0, 4, 3, 2, 3, 3, 3, 7, 4, 4, 4, 3, 0, 3, 32, 32, 32, 8, many.length() + 5,
            many.length() + 5, many.length() - 2, 0};
        int[] kinds = {1, 1, 1, 1, 1, 1, 1, 1, 3, 3, 1, 3, 1, 1, 1, 1, 1, 1, 4, 1, 4, 4, 4, 4, 4, 1};
        for (int i = 0; i < texts.length; i++) {
            due("SENTENCE " + texts[i], Check.sentence(court, texts[i]), -1 - places[i]);
            due("its kind: " + texts[i], court.fault(), kinds[i]);
            due("the tape is empty with a FAULT", court.count(6), 0);
        }
    }

    /** Promises 46, 47. */
    private static void images() {
        ScentCourt court = court(HILL);
        due("nothing is kept", court.restore(0), false);
        for (int wrong : new int[] {-1, 2, FAR, DEEP}) {
            due("no such place", court.image(wrong), false);
            due("no such place", court.restore(wrong), false);
        }
        court.on(2);
        court.change(0, 1);
        court.goes(2, 0);
        court.send(0, 1);
        Check.sentence(court, "own");
        due("kept", court.image(1), true);
        due("nothing is kept there", court.restore(0), false);
        due("still to be undone", court.undo(), 3);
        Check.hill(court, PLAIN);
        court.on(7);
        due("kept", court.image(0), true);
        court.send(2, 2);
        court.write(0);
        Check.tape(court, "abc");
        due("restored", court.restore(1), true);
        due("the HILL", court.count(0), 3);
        due("AIR", court.air(1, 2), 9);
        due("the HOUR", court.count(4), 2);
        due("places", court.witness(2, 0), 0);
        due("who wears", court.witness(0, 1), 1);
        coat(court, 1, 0, 4, 15);
        cloth(court, 0, 0, 4, 15);
        due("its COAT", court.box(0, 0), 1);
        due("its BOX", court.box(0, 1), 1);
        due("its HOUR", court.box(0, 2), 2);
        due("the SENTENCE", court.said(-1), 1);
        due("the tape stays", court.count(6), 3);
        due("the text stays", court.byteAt(0), 's');
        due("nothing can be undone", court.undo(), -1);
        court.on(1);
        due("'went' as told then", court.witness(0, 0), 1);
        coat(court, 1, 0, 4 + 2, 15 - 3 + 9);
        due("restored", court.restore(0), true);
        due("the HOUR", court.count(4), 7);
        due("no SENTENCE then", court.said(-1), -1);
        due("no CLOTHS then", court.count(5), 0);
        due("restored again", court.restore(1), true);
        coat(court, 1, 0, 4, 15);
    }

    /** Promise 48. */
    private static void counts() {
        ScentCourt court = court(HILL);
        court.on(5);
        court.send(0, 0);
        court.feed(0, 0, 0, 0, 0);
        int[] counts = {3, 3, 3, 2, 5, 1, 20};
        for (int what = 0; what < counts.length; what++) {
            due("count " + what, court.count(what), counts[what]);
        }
        for (int wrong : new int[] {-1, 7, FAR, DEEP}) {
            due("count of another", court.count(wrong), -1);
        }
    }
}
