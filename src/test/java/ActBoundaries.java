/** What the document says of AIR, HOURS and acts; promises 1 to 3, 6 to 18 and 46 to 48. */
final class ActBoundaries {
    private static final int NONE = ScentCourt.NONE;
    private static final String TERMS = "Terms";
    private static final String PEOPLE = "scent s 0;scent t 0;place p s 3 t 2;place q;witness a 2 p;witness b 5 q;";

    private final Said said;

    ActBoundaries(Said said) {
        this.said = said;
    }

    void test() {
        air();
        coats();
        hourBegins();
        fading();
        rain();
        gaining();
        clothsFade();
        boxes();
        cutting();
        soapAndChange();
        newObject();
        feed();
        feedFull();
        end();
        promiseAir();
        promiseFade();
        promiseWitness();
        promiseCoat();
        promiseCloth();
        promiseBox();
        promiseGoes();
        promiseChange();
        promiseSoap();
        promiseSend();
        promiseMove();
        promiseOn();
        undoEach();
        undoEight();
        undoNone();
        image();
        restore();
        count();
    }

    private void air() {
        said.says(TERMS, "AIR of a PLACE, of each SCENT: what is told for it, "
                + "and of each smoke to it half (cut) of what is told for where it comes from.");
        ScentCourt court = said.court("scent s 0;place p s 9;place q s 2;place r s 1;place o;"
                + "smoke s p q;smoke s q r;smoke s r o;smoke s o p;");
        said.due("half of nothing", court.air(0, 0), 9);
        said.due("half of 9, cut", court.air(1, 0), 2 + 4);
        said.due("half of what is told, not of the AIR", court.air(2, 0), 1 + 1);
        said.due("half of 1, cut", court.air(3, 0), 0);
        court = said.court("scent s 0;place a s 9;place b s 9;place c s 9;place d s 9;place e s 9;place f s 9;"
                + "smoke s a f;smoke s b f;smoke s c f;smoke s d f;smoke s e f;");
        said.due("each half is cut: the most AIR that there can be", court.air(5, 0), 9 + 5 * 4);
        said.due("where it comes from has all", court.air(4, 0), 9);
        court = said.court("scent s 0;scent t 0;place p s 4 t 6;place q;smoke t p q;");
        said.due("smoke of one SCENT alone", court.air(1, 0), 0);
        said.due("its half", court.air(1, 1), 3);
        said.due("smoke goes one way", court.air(0, 1), 6);
    }

    private void coats() {
        said.says(TERMS, "Each WITNESS has a COAT, of the same number, with its KEEP, which it wears at first; "
                + "all COATS are clean then.");
        ScentCourt court = said.court("scent s 1;place p s 9;place o;witness a 1 p;witness b 3 p;");
        for (int w = 0; w < 2; w++) {
            said.due("it wears its own", court.witness(w, 1), w);
            said.due("it is clean", court.witness(w, 3), 0);
            said.coat(court, w, 0);
        }
        court.change(0, 1);
        court.on(1);
        court.goes(0, 1);
        court.goes(1, 1);
        court.on(1);
        said.coat(court, 0, 8);
        said.coat(court, 1, 9);
        said.due("the KEEP is the COAT's, not its wearer's", court.on(1), 3);
        said.coat(court, 0, 7);
        said.coat(court, 1, 8);
    }

    private void hourBegins() {
        said.says(TERMS, "An HOUR: it is one more; who 'went' at it is there;");
        ScentCourt court = said.court("scent s 0;place p s 5;place o;witness a 1 o;went a 2 p;went a 3 o;");
        said.due("one more", court.on(1), 1);
        said.due("not yet", court.witness(0, 0), 1);
        said.coat(court, 0, 0);
        court.goes(0, 1);
        said.due("one more", court.on(1), 2);
        said.due("is there", court.witness(0, 0), 0);
        said.coat(court, 0, 5);
        court.goes(0, 0);
        said.due("one more", court.on(1), 3);
        said.due("whatever was done ahead", court.witness(0, 0), 1);
        said.coat(court, 0, 5);
        court.goes(0, 0);
        court.on(1);
        said.due("it stays behind", court.witness(0, 0), 0);
        said.coat(court, 0, 10);
    }

    private void fading() {
        said.says(TERMS, "then, COAT by COAT, each SCENT on it is less by its FADE, if the HOUR is a multiple of KEEP,");
        ScentCourt court = said.court("scent s 1;scent t 0;place p s 9 t 2;place o;"
                + "witness a 9 p;witness b 1 p;witness c 2 p;");
        court.on(1);
        for (int w = 0; w < 3; w++) {
            said.coat(court, w, 9, 2);
            court.goes(w, 1);
        }
        court.on(1);
        due(court, 9, 8, 8);
        court.on(1);
        due(court, 9, 7, 8);
        court.on(5);
        due(court, 9, 2, 5);
        court.on(1);
        due(court, 8, 1, 5);
        court.on(1);
        due(court, 8, 0, 4);
        court.on(7);
        due(court, 8, 0, 1);
        court.on(1);
        due(court, 7, 0, 0);
        said.due("FADE 0", court.coat(1, 1), 2);
    }

    /** How much of SCENT 0 is on the COATS. */
    private void due(ScentCourt court, int... much) {
        for (int w = 0; w < much.length; w++) {
            said.coat(court, w, much[w]);
        }
    }

    private void rain() {
        said.says(TERMS, "less by 2 in rain, too (0 at least);");
        ScentCourt court = said.court("scent s 0;scent t 3;place p s 1 t 1;place o;witness a 1 p;witness b 9 p;rain 2;rain 5;");
        court.on(1);
        said.coat(court, 0, 1, 1);
        said.coat(court, 1, 1, 1);
        court.on(1);
        said.coat(court, 0, 1, 1);
        said.coat(court, 1, 1, 1);
        court.on(1);
        said.coat(court, 0, 2, 1);
        said.coat(court, 1, 2, 2);
        court.on(1);
        said.coat(court, 0, 3, 1);
        said.coat(court, 1, 3, 3);
        court.goes(0, 1);
        court.goes(1, 1);
        court.on(1);
        said.coat(court, 0, 1, 0);
        said.coat(court, 1, 1, 1);
        court.on(1);
        said.coat(court, 0, 1, 0);
        said.coat(court, 1, 1, 1);
        court = said.court("scent s 2;place p s 5;place o;witness a 2 p;rain 2;went a 2 o;");
        court.on(2);
        said.coat(court, 0, 5 - 2 - 2);
        court = said.court("scent s 1;place p s 2;place o;witness a 2 p;rain 2;went a 2 o;");
        court.on(2);
        said.coat(court, 0, 0);
    }

    private void gaining() {
        said.says(TERMS, "then it is more by the AIR of where its wearer is (99 at most).");
        ScentCourt court = said.court("scent s 0;scent t 1;place p s 9 t 9;place q s 2;witness a 1 p;witness b 1 q;");
        court.on(10);
        said.coat(court, 0, 90, 81);
        court.on(1);
        said.coat(court, 0, 99, 89);
        court.on(1);
        said.coat(court, 0, 99, 97);
        court.on(1);
        said.coat(court, 0, 99, 99);
        court.on(1);
        said.coat(court, 0, 99, 99);
        court.on(35);
        said.coat(court, 1, 98, 0);
        court.on(1);
        said.coat(court, 1, 99, 0);
        court.goes(0, 1);
        court.on(1);
        said.coat(court, 0, 99, 98);
        court.soap(0);
        court.soap(1);
        court.change(0, 1);
        court.goes(0, 0);
        court.on(1);
        said.coat(court, 1, 9, 9);
        said.coat(court, 0, 2, 0);
    }

    private void clothsFade() {
        said.says(TERMS, "Then CLOTH by CLOTH it is less by FADE likewise (no rain).");
        ScentCourt court = said.court("scent s 2;scent t 9;scent u 0;place p s 5 t 4 u 1;witness a 2 p;rain 2;rain 3;");
        court.on(1);
        said.due("a CLOTH", court.send(0, 0), 0);
        court.on(1);
        said.cloth(court, 0, 3, 0, 1);
        court.on(1);
        said.cloth(court, 0, 3, 0, 1);
        court.on(1);
        said.cloth(court, 0, 1, 0, 1);
        court.on(2);
        said.cloth(court, 0, 0, 0, 1);
        court.on(2);
        said.cloth(court, 0, 0, 0, 1);
        court = said.court("scent s 1;place p s 9;witness a 9 p;");
        court.on(8);
        court.send(0, 2);
        court.on(1);
        said.cloth(court, 0, 71);
        court.on(8);
        said.cloth(court, 0, 71);
        court.on(1);
        said.cloth(court, 0, 70);
    }

    private void boxes() {
        said.says(TERMS, "Then in each BOX, SCENT by SCENT: all CLOTHS with less than the greatest have 1 more.");
        ScentCourt court = said.cut(new int[] {5, 0}, new int[] {3, 2}, new int[] {0, 1}, new int[] {5, 1});
        court.move(2, 1);
        court.on(1);
        said.cloth(court, 0, 5, 1);
        said.cloth(court, 1, 4, 2);
        said.cloth(court, 2, 0, 1);
        said.cloth(court, 3, 5, 2);
        court.on(1);
        said.cloth(court, 0, 5, 2);
        said.cloth(court, 1, 5, 2);
        court.on(1);
        said.cloth(court, 0, 5, 2);
        said.cloth(court, 1, 5, 2);
        said.cloth(court, 2, 0, 1);
        court.move(0, 2);
        court.move(2, 2);
        court.on(1);
        said.cloth(court, 2, 1, 2);
        said.cloth(court, 0, 5, 2);
        court.on(3);
        said.cloth(court, 2, 4, 2);
        court.on(2);
        said.cloth(court, 2, 5, 2);
        ScentCourt later = said.court("scent s 1;place p s 5;witness a 1 p;witness b 2 p;");
        later.on(1);
        later.send(0, 1);
        later.send(1, 1);
        later.on(1);
        said.cloth(later, 0, 4);
        said.cloth(later, 1, 4);
        later.on(1);
        said.cloth(later, 0, 4);
        said.cloth(later, 1, 4);
        ScentCourt gone = said.cut(new int[] {2, 0}, new int[] {9, 0});
        gone.undo();
        gone.on(1);
        said.cloth(gone, 0, 2);
        gone.send(1, 0);
        Check.hill(gone, Said.smells(new int[] {2, 0}));
        gone.on(1);
        gone.send(0, 0);
        gone.on(1);
        said.cloth(gone, 0, 2);
        ScentCourt full = said.court("scent s 0;place p s 9;place q s 7;witness a 1 p;witness b 1 q;");
        full.on(14);
        full.send(0, 0);
        full.send(1, 0);
        full.on(1);
        said.cloth(full, 0, 99);
        said.cloth(full, 1, 99);
    }

    private void cutting() {
        said.says(TERMS, "A CLOTH is cut from the COAT that a WITNESS wears, with what is on it and its KEEP, "
                + "and laid in a BOX (0 to 2); 8 at most, numbered from 0.");
        ScentCourt court = said.court("scent s 1;place p s 9;place q s 4;witness a 1 p;witness b 3 q;");
        court.on(1);
        court.change(0, 1);
        said.due("the first", court.send(0, 2), 0);
        said.cloth(court, 0, 4);
        said.due("its COAT", court.box(0, 0), 1);
        court.change(0, 1);
        court.on(1);
        said.cloth(court, 0, 4);
        court.on(1);
        said.cloth(court, 0, 3);
        said.due("BOX below 0", court.send(0, -1), NONE);
        said.due("BOX 3", court.send(0, 3), NONE);
        for (int c = 1; c < 8; c++) {
            said.due("the next", court.send(c % 2, c % 3), c);
            said.due("its BOX", court.box(c, 1), c % 3);
        }
        said.due("a ninth", court.send(0, 0), NONE);
        said.due("8", court.count(5), 8);
    }

    private void soapAndChange() {
        said.says(TERMS, "SOAP: the COAT that one wears is clean. CHANGE: two wear each other's COATS.");
        ScentCourt court = said.court(PEOPLE);
        court.on(1);
        court.change(1, 0);
        said.due("b wears a's", court.witness(1, 1), 0);
        said.due("a wears b's", court.witness(0, 1), 1);
        said.due("a's own KEEP", court.witness(0, 2), 2);
        court.soap(0);
        said.coat(court, 0, 3, 2);
        court.soap(1);
        said.coat(court, 0, 0, 0);
        court.on(1);
        said.coat(court, 0, 0, 0);
        said.coat(court, 1, 3, 2);
        court.change(0, 1);
        said.due("again", court.witness(0, 1), 0);
        said.due("again", court.witness(1, 1), 1);
    }

    private void newObject() {
        said.says("Promise 1", "An empty HILL; an empty tape.");
        ScentCourt court = new ScentCourt();
        for (int what = 0; what < 7; what++) {
            said.due("count " + what, court.count(what), 0);
        }
        said.due("end of the empty tape", court.end(0), true);
        said.due("it has not one byte", court.end(1), false);
        said.due("nothing can be undone", court.undo(), NONE);
        said.due("no SENTENCE", court.said(NONE), NONE);
        said.due("HOURS of nobody", court.on(60), 60);
        said.due("undone", court.undo(), 0);
        said.due("an image of it", court.image(0), true);
        said.due("restored", court.restore(0), true);
        said.due("no SCENTS, no WITNESSES, HOUR 0: no bytes are as told", court.changed(), 0);
        said.due("PLEAS of nobody", court.pleas(), NONE);
        said.due("the HILL of no LINES", court.hill(), 0);
        said.due("another object has nothing of it", new ScentCourt().count(4), 0);
    }

    private void feed() {
        said.says("Promise 2", "Twenty bytes come behind the tape, of each number the highest first: how many it has;");
        ScentCourt court = said.court(PEOPLE);
        byte[] text = Check.bytes("own or at p and keep");
        said.due("20", court.feed(Check.four(text, 0), Check.four(text, 4), Check.four(text, 8), Check.four(text, 12),
                Check.four(text, 16)), 20);
        said.due("behind", court.feed('<' << 24 | '3' << 16 | ' ' << 8 | 'o', 'r' << 24 | ' ' << 16 | 'a' << 8 | 't',
                ' ' << 24 | 'q' << 16, 0, 0), 40);
        said.due("ten of them", court.end(30), true);
        said.due("one text", court.sentence(), 4);
        said.due("a and b", court.said(NONE), 2);
        for (int i = 0; i < 20; i++) {
            int[] numbers = new int[5];
            numbers[i / 4] = '!' << 24 - i % 4 * 8;
            for (int n = 0; n < 5; n++) {
                for (int shift = 0; shift < 32; shift += 8) {
                    numbers[n] |= (numbers[n] >>> shift & 255) == 0 ? ' ' << shift : 0;
                }
            }
            court.feed(numbers[0], numbers[1], numbers[2], numbers[3], numbers[4]);
            said.due("where byte " + i + " is", court.hill(), -1 - i);
        }
        court.feed(-1, -1, -1, -1, -1);
        said.due("bytes of 255", court.hill(), -1);
        court.feed(Said.DEEP, 0, 0, 0, 0);
        said.due("a byte of 128", court.hill(), -1);
    }

    private void feedFull() {
        said.says("Promise 2", "NONE, and none come, if it would have more than 940.");
        ScentCourt court = new ScentCourt();
        for (int due = 20; due <= 940; due += 20) {
            said.due("feed", court.feed(0x20202020, 0x20202020, 0x20202020, 0x20202020, 0x20202020), due);
        }
        said.due("960", court.feed(0, 0, 0, 0, 0), NONE);
        said.due("none came", court.count(6), 940);
        court.end(939);
        said.due("959", court.feed(0, 0, 0, 0, 0), NONE);
        said.due("none came", court.count(6), 939);
        court.end(921);
        said.due("941", court.feed(0, 0, 0, 0, 0), NONE);
        said.due("none came", court.count(6), 921);
        court.end(920);
        said.due("940", court.feed(0, 0, 0, 0, 0), 940);
        court.end(919);
        said.due("939", court.feed(0, 0, 0, 0, 0), 939);
        court.end(900);
        said.due("none of those that were refused came", court.hill(), 0);
    }

    private void end() {
        said.says("Promise 3", "The tape has its first n bytes alone: true; false, if it has not so many, or n is below 0.");
        ScentCourt court = said.court(PEOPLE);
        said.due("0 of none", court.end(0), true);
        said.due("1 of none", court.end(1), false);
        Check.tape(court, "own or own or own or");
        for (int wrong : new int[] {21, 22, 940, 941, Said.FAR, -1, -2, -20, Said.DEEP}) {
            said.due("end " + wrong, court.end(wrong), false);
            said.due("nothing changed", court.count(6), 20);
        }
        said.due("all of them", court.end(20), true);
        said.due("20", court.count(6), 20);
        said.due("the first 17", court.end(17), true);
        said.due("17", court.count(6), 17);
        said.due("18 no more", court.end(18), false);
        said.due("the first 17 bytes", court.sentence(), 3);
        Check.tape(court, "own!");
        said.due("the first 3", court.end(3), true);
        said.due("without the last", court.sentence(), 1);
        Check.tape(court, "own");
        said.due("none", court.end(0), true);
        said.due("0", court.count(6), 0);
        said.due("nothing is left", court.hill(), 0);
    }

    private void promiseAir() {
        said.says("Promise 6", "AIR of a PLACE, of a SCENT. NoSuchElementException: no such ones.");
        ScentCourt court = said.court("scent s 0;scent t 0;scent u 0;place p s 1;place q t 9;");
        int[][] airs = {{1, 0, 0}, {0, 9, 0}};
        for (int p = 0; p < 2; p++) {
            for (int s = 0; s < 3; s++) {
                said.due("AIR of " + p + ", " + s, court.air(p, s), airs[p][s]);
            }
        }
        for (int wrong : new int[] {-1, 3, 6, Said.FAR, Said.DEEP}) {
            said.due("PLACE " + wrong, Throws.air(court, wrong, 0), true);
            said.due("SCENT " + wrong, Throws.air(court, 0, wrong), true);
        }
        said.due("PLACE 2, SCENT 2", Throws.air(court, 2, 2), true);
        said.due("the last ones", Throws.air(court, 1, 2), false);
        said.due("no PLACES", Throws.air(said.court("scent s 0;"), 0, 0), true);
        said.due("no SCENTS", Throws.air(said.court("place p;"), 0, 0), true);
        said.due("an empty HILL", Throws.air(new ScentCourt(), 0, 0), true);
    }

    private void promiseFade() {
        said.says("Promise 7", "FADE of a SCENT; NONE: no such one.");
        ScentCourt court = said.court("scent a 0;scent b 1;scent c 2;scent d 3;scent e 8;scent f 9;");
        int[] fades = {0, 1, 2, 3, 8, 9};
        for (int s = 0; s < fades.length; s++) {
            said.due("FADE of " + s, court.fade(s), fades[s]);
        }
        for (int wrong : new int[] {-1, 6, 7, Said.FAR, Said.DEEP}) {
            said.due("FADE of " + wrong, court.fade(wrong), NONE);
        }
        Check.hill(court, "scent a 4;");
        said.due("the only one", court.fade(0), 4);
        said.due("no second now", court.fade(1), NONE);
        said.due("an empty HILL", new ScentCourt().fade(0), NONE);
    }

    private void promiseWitness() {
        said.says("Promise 8", "Of a WITNESS: 0 the PLACE, 1 whose COAT it wears, 2 KEEP of its own COAT, "
                + "3 all SCENTS of the COAT that it wears together, 4 the strongest one there (of like ones the first; "
                + "NONE: it is clean). NoSuchElementException: no such ones.");
        ScentCourt court = said.court("scent s 0;scent t 0;place p s 2 t 2;place q t 3 s 1;place o;"
                + "witness a 1 p;witness b 9 q;witness c 4 o;");
        said.due("clean", court.witness(0, 4), NONE);
        court.on(1);
        int[][] looks = {{0, 0, 1, 4, 0}, {1, 1, 9, 4, 1}, {2, 2, 4, 0, NONE}};
        witnesses(court, looks);
        court.change(1, 2);
        witnesses(court, new int[][] {{0, 0, 1, 4, 0}, {1, 2, 9, 0, NONE}, {2, 1, 4, 4, 1}});
        for (int wrong : new int[] {-1, 3, 6, Said.FAR, Said.DEEP}) {
            for (int what = 0; what < 5; what++) {
                said.due("WITNESS " + wrong, Throws.witness(court, wrong, what), true);
            }
        }
        for (int wrong : new int[] {-1, 5, 6, Said.FAR, Said.DEEP}) {
            said.due("what " + wrong, Throws.witness(court, 0, wrong), true);
        }
        said.due("an empty HILL", Throws.witness(new ScentCourt(), 0, 0), true);
        ScentCourt last = said.court("scent a 0;scent b 0;scent c 0;scent d 0;scent e 0;scent f 0;"
                + "place p a 1 b 1 c 1 d 1 e 1 f 2;witness w 1 p;");
        last.on(60);
        said.due("all six", last.witness(0, 3), 5 * 60 + 99);
        said.due("the last one", last.witness(0, 4), 5);
    }

    private void witnesses(ScentCourt court, int[][] looks) {
        for (int w = 0; w < looks.length; w++) {
            for (int what = 0; what < 5; what++) {
                said.due("WITNESS " + w + ", " + what, court.witness(w, what), looks[w][what]);
            }
        }
    }

    private void promiseCoat() {
        said.says("Promise 9", "How much of a SCENT is on a COAT; NONE: no such ones.");
        ScentCourt court = said.court(PEOPLE);
        said.coat(court, 0, 0, 0);
        court.on(1);
        court.change(0, 1);
        said.coat(court, 0, 3, 2);
        said.coat(court, 1, 0, 0);
        for (int wrong : new int[] {-1, 2, 6, Said.FAR, Said.DEEP}) {
            said.due("COAT " + wrong, court.coat(wrong, 0), NONE);
            said.due("SCENT " + wrong, court.coat(0, wrong), NONE);
        }
        said.due("neither", court.coat(2, 2), NONE);
        said.due("no SCENTS", said.court("place p;witness a 1 p;").coat(0, 0), NONE);
        said.due("an empty HILL", new ScentCourt().coat(0, 0), NONE);
    }

    private void promiseCloth() {
        said.says("Promise 10", "How much of a SCENT is on a CLOTH; NONE: no such ones.");
        ScentCourt court = said.court(PEOPLE);
        said.due("none yet", court.cloth(0, 0), NONE);
        court.on(1);
        court.send(0, 0);
        court.send(1, 1);
        court.soap(0);
        said.cloth(court, 0, 3, 2);
        said.cloth(court, 1, 0, 0);
        for (int wrong : new int[] {-1, 2, 8, Said.FAR, Said.DEEP}) {
            said.due("CLOTH " + wrong, court.cloth(wrong, 0), NONE);
            said.due("SCENT " + wrong, court.cloth(0, wrong), NONE);
        }
        court.undo();
        court.undo();
        said.due("undone", court.cloth(1, 0), NONE);
        for (int c = 1; c < 8; c++) {
            court.send(0, 0);
        }
        said.due("the last of 8", court.cloth(7, 0), 3);
        said.due("no ninth", court.cloth(8, 0), NONE);
    }

    private void promiseBox() {
        said.says("Promise 11", "Of a CLOTH: 0 its COAT's number, 1 the BOX, 2 the HOUR at which it was cut, "
                + "3 its strongest SCENT (NONE: it is clean), 4 all SCENTS together. NONE: no such ones.");
        ScentCourt court = said.court(PEOPLE);
        court.send(0, 2);
        court.on(1);
        court.change(0, 1);
        court.send(1, 0);
        court.on(1);
        int[][] looks = {{0, 2, 0, NONE, 0}, {0, 0, 1, 0, 5}};
        for (int c = 0; c < 2; c++) {
            for (int what = 0; what < 5; what++) {
                said.due("CLOTH " + c + ", " + what, court.box(c, what), looks[c][what]);
            }
            for (int wrong : new int[] {-1, 5, Said.FAR, Said.DEEP}) {
                said.due("what " + wrong, court.box(c, wrong), NONE);
            }
        }
        for (int wrong : new int[] {-1, 2, 8, Said.FAR, Said.DEEP}) {
            for (int what = 0; what < 5; what++) {
                said.due("CLOTH " + wrong, court.box(wrong, what), NONE);
            }
        }
        ScentCourt like = said.cut(new int[] {4, 4}, new int[] {4, 5});
        said.due("of like ones the first", like.box(0, 3), 0);
        said.due("the stronger", like.box(1, 3), 1);
    }

    private void promiseGoes() {
        said.says("Promise 12", "A WITNESS goes to a PLACE: true; false: no such ones.");
        ScentCourt court = said.court(PEOPLE);
        said.due("it goes", court.goes(0, 1), true);
        said.due("it is there", court.witness(0, 0), 1);
        said.due("it goes where it is", court.goes(0, 1), true);
        said.due("it is there", court.witness(0, 0), 1);
        said.due("the other", court.goes(1, 0), true);
        said.due("no HOUR passes", court.count(4), 0);
        for (int wrong : new int[] {-1, 2, 6, Said.FAR, Said.DEEP}) {
            said.due("WITNESS " + wrong, court.goes(wrong, 0), false);
            said.due("PLACE " + wrong, court.goes(0, wrong), false);
        }
        said.due("neither", court.goes(2, 2), false);
        said.due("it is there", court.witness(0, 0), 1);
        said.due("an empty HILL", new ScentCourt().goes(0, 0), false);
        said.due("three were done", court.undo(), 2);
    }

    private void promiseChange() {
        said.says("Promise 13", "CHANGE of two WITNESSES: true; false: no such ones, one alone.");
        ScentCourt court = said.court(PEOPLE + "witness c 1 p;");
        said.due("the first and the last", court.change(0, 2), true);
        said.due("wears the last's", court.witness(0, 1), 2);
        said.due("wears the first's", court.witness(2, 1), 0);
        for (int alone : new int[] {0, 1, 2}) {
            said.due("one alone", court.change(alone, alone), false);
        }
        for (int wrong : new int[] {-1, 3, 6, Said.FAR, Said.DEEP}) {
            said.due("the first is none", court.change(wrong, 0), false);
            said.due("the second is none", court.change(0, wrong), false);
            said.due("both are none", court.change(wrong, wrong), false);
        }
        said.due("the first is none, the second another none", court.change(3, 4), false);
        said.due("wears the last's", court.witness(0, 1), 2);
        said.due("one was done", court.undo(), 0);
        said.due("an empty HILL", new ScentCourt().change(0, 1), false);
    }

    private void promiseSoap() {
        said.says("Promise 14", "SOAP for what a WITNESS wears: how much of all SCENTS it took; NONE: no such one.");
        ScentCourt court = said.court(PEOPLE);
        said.due("of a clean one", court.soap(0), 0);
        court.on(60);
        court.change(0, 1);
        said.due("99 and 99", court.soap(1), 198);
        said.coat(court, 0, 0, 0);
        said.due("again", court.soap(1), 0);
        for (int wrong : new int[] {-1, 2, 6, Said.FAR, Said.DEEP}) {
            said.due("WITNESS " + wrong, court.soap(wrong), NONE);
        }
        said.due("SOAP that took nothing was done, too", court.undo(), 4);
        said.due("an empty HILL", new ScentCourt().soap(0), NONE);
    }

    private void promiseSend() {
        said.says("Promise 15", "A CLOTH of what a WITNESS wears is laid in a BOX: its number; NONE: no such ones, there are 8.");
        ScentCourt court = said.court(PEOPLE);
        for (int wrong : new int[] {-1, 2, 3, 6, Said.FAR, Said.DEEP}) {
            said.due("WITNESS " + wrong, court.send(wrong, 0), NONE);
            if (wrong != 2) {
                said.due("BOX " + wrong, court.send(0, wrong), NONE);
            }
        }
        said.due("none came", court.count(5), 0);
        said.due("none was done", court.undo(), NONE);
        for (int c = 0; c < 8; c++) {
            said.due("CLOTH", court.send(c % 2, 2 - c % 3), c);
            said.due("its BOX", court.box(c, 1), 2 - c % 3);
            said.due("its COAT", court.box(c, 0), c % 2);
        }
        said.due("there are 8", court.send(0, 0), NONE);
        said.due("8", court.count(5), 8);
        said.due("one undone", court.undo(), 7);
        said.due("the eighth again", court.send(1, 1), 7);
        said.due("an empty HILL", new ScentCourt().send(0, 0), NONE);
    }

    private void promiseMove() {
        said.says("Promise 16", "A CLOTH is moved to a BOX: true; false: no such ones, it is there.");
        ScentCourt court = said.court(PEOPLE);
        said.due("there is none", court.move(0, 0), false);
        court.send(0, 0);
        court.send(0, 2);
        said.due("it is there", court.move(0, 0), false);
        said.due("it is there", court.move(1, 2), false);
        said.due("moved up", court.move(0, 2), true);
        said.due("BOX 2", court.box(0, 1), 2);
        said.due("moved down", court.move(1, 0), true);
        said.due("BOX 0", court.box(1, 1), 0);
        said.due("between", court.move(1, 1), true);
        for (int wrong : new int[] {-1, 3, Said.FAR, Said.DEEP}) {
            said.due("BOX " + wrong, court.move(0, wrong), false);
        }
        for (int wrong : new int[] {-1, 2, 7, 8, Said.FAR, Said.DEEP}) {
            said.due("CLOTH " + wrong, court.move(wrong, 1), false);
        }
        said.due("five were done", court.undo(), 4);
        said.due("BOX 0 again", court.box(1, 1), 0);
    }

    private void promiseOn() {
        said.says("Promise 17", "n (1 to 60) HOURS go by: the HOUR then; NONE: not as told, it would be above 999.");
        ScentCourt court = said.court(PEOPLE);
        for (int wrong : new int[] {0, -1, 61, 999, Said.FAR, Said.DEEP}) {
            said.due("n " + wrong, court.on(wrong), NONE);
        }
        said.due("none was done", court.undo(), NONE);
        said.due("1", court.on(1), 1);
        said.coat(court, 0, 3, 2);
        said.due("60", court.on(60), 61);
        said.coat(court, 0, 99, 99);
        said.pass(court, 998 - 61);
        said.due("1000", court.on(2), NONE);
        said.due("1058", court.on(60), NONE);
        said.due("the HOUR stays", court.count(4), 998);
        said.due("999", court.on(1), 999);
        said.due("1000", court.on(1), NONE);
        said.due("the HOUR stays", court.count(4), 999);
        court.undo();
        said.due("998", court.count(4), 998);
        court = said.court(PEOPLE);
        said.pass(court, 939);
        said.due("939 and 60", court.on(60), 999);
        court.undo();
        court.on(1);
        said.due("940 and 60", court.on(60), NONE);
        said.due("940 and 59", court.on(59), 999);
    }

    private void undoEach() {
        said.says("Promise 18", "The latest of goes(), change(), soap(), send(), move(), on(), drawn() that was done is undone:");
        for (int latest = 0; latest < 7; latest++) {
            ScentCourt court = said.court("scent s 1;scent t 0;place p s 3 t 2;place q t 1;witness a 2 p;witness b 5 q;"
                    + "went a 9 q;rain 4;");
            court.on(1);
            court.send(0, 0);
            court.send(1, 0);
            for (int i = 0; i < latest; i++) {
                act(court, i);
            }
            String before = Said.all(court);
            act(court, latest);
            said.due("act " + latest + " alters something", Said.all(court).equals(before), false);
            said.due("how many more than act " + latest, court.undo(), Math.min(7, 3 + latest));
            said.due("act " + latest + " undone", Said.all(court), before);
        }
    }

    private void act(ScentCourt court, int which) {
        switch (which) {
            case 0: said.due("goes", court.goes(0, 1), true); break;
            case 1: said.due("change", court.change(0, 1), true); break;
            case 2: said.due("soap", court.soap(0), 1); break;
            case 3: said.due("send", court.send(1, 2), 2); break;
            case 4: said.due("move", court.move(0, 1), true); break;
            case 5: said.due("on", court.on(7), 8); break;
            default: said.due("drawn", court.drawn(9, 3), 17);
        }
    }

    private void undoEight() {
        said.says("Promise 18", "how many more can be (8 at most are kept);");
        for (int acts : new int[] {1, 7, 8, 9, 16, 20}) {
            ScentCourt court = said.court(PEOPLE);
            for (int i = 0; i < acts; i++) {
                court.on(1);
            }
            int kept = Math.min(8, acts);
            for (int more = kept - 1; more >= 0; more--) {
                said.due("more of " + acts, court.undo(), more);
                said.due("the HOUR", court.count(4), acts - kept + more);
            }
            said.due("no more of " + acts, court.undo(), NONE);
            said.due("the HOUR stays", court.count(4), acts - kept);
            court.on(2);
            said.due("one again", court.undo(), 0);
            said.due("the HOUR", court.count(4), acts - kept);
        }
        ScentCourt court = said.court(PEOPLE);
        for (int i = 0; i < 30; i++) {
            court.on(1);
            court.on(1);
            said.due("to and fro", court.undo(), Math.min(7, i + 1));
            said.due("the HOUR", court.count(4), i + 1);
        }
    }

    private void undoNone() {
        said.says("Promise 18", "NONE: none is.");
        ScentCourt court = said.court(PEOPLE);
        said.due("none", court.undo(), NONE);
        court.goes(9, 0);
        court.change(0, 0);
        court.soap(2);
        court.send(0, 3);
        court.move(0, 0);
        court.on(61);
        court.drawn(0, 1);
        said.due("what was refused is not done", court.undo(), NONE);
        court.order();
        court.noses();
        court.odds(0, 1, 1);
        court.image(0);
        court.write(0);
        Check.sentence(court, "own");
        Check.pleas(court, "a at p;");
        court.feed(0, 0, 0, 0, 0);
        court.end(3);
        said.due("other calls are none of them", court.undo(), NONE);
        said.due("the tape stays", court.count(6), 3);
        said.due("the SENTENCE stays", court.said(NONE), 2);
        court.on(1);
        Check.hill(court, "!");
        said.due("a FAULT forgets nothing", court.undo(), 0);
        court.on(1);
        Check.hill(court, PEOPLE);
        said.due("a new HILL", court.undo(), NONE);
        court.on(1);
        court.restore(0);
        said.due("restored", court.undo(), NONE);
    }

    private void image() {
        said.says("Promise 46", "HILL, HOUR, places, COATS, CLOTHS and SENTENCE are kept in place k (0, 1): true; false: no such one.");
        ScentCourt court = said.court(PEOPLE);
        for (int wrong : new int[] {-1, 2, 3, Said.FAR, Said.DEEP}) {
            said.due("place " + wrong, court.image(wrong), false);
        }
        said.due("an image at HOUR 0", court.image(1), true);
        String first = Said.all(court);
        court.on(3);
        court.change(0, 1);
        court.goes(1, 0);
        court.send(0, 2);
        court.send(1, 1);
        court.on(1);
        Check.sentence(court, "smells s");
        String second = Said.all(court);
        int saidOf = court.said(NONE);
        said.due("an image", court.image(0), true);
        said.due("it changes nothing", Said.all(court), second);
        said.due("what can be undone stays", court.undo(), 5);
        Check.hill(court, "scent x 9;place y;witness z 1 y;");
        court.send(0, 0);
        court.send(0, 0);
        court.send(0, 0);
        String third = Said.all(court);
        said.due("restored", court.restore(0), true);
        said.due("all", Said.all(court), second);
        said.due("the SENTENCE", court.said(NONE), saidOf);
        said.due("NAMES", Check.pleas(court, "a at p;"), NONE);
        said.due("restored", court.restore(1), true);
        said.due("all", Said.all(court), first);
        said.due("no SENTENCE", court.said(NONE), NONE);
        court.on(3);
        said.due("the image is not what goes on", court.restore(1), true);
        said.due("all", Said.all(court), first);
        Check.hill(court, "scent x 9;place y;witness z 1 y;");
        for (int c = 0; c < 3; c++) {
            court.send(0, 0);
        }
        said.due("kept over the first", court.image(1), true);
        said.due("restored", court.restore(0), true);
        said.due("all", Said.all(court), second);
        said.due("restored", court.restore(1), true);
        said.due("all", Said.all(court), third);
    }

    private void restore() {
        said.says("Promise 47", "They are as kept in place k (the tape, and what other calls told last, stays; nothing can be undone): "
                + "true; false: no such one, or nothing is kept there.");
        ScentCourt court = said.court("scent s 0;scent t 0;place p s 3 t 2;place q;witness a 2 p;witness b 5 q;"
                + "went a 3 q;rain 2;");
        said.due("nothing is kept", court.restore(0), false);
        said.due("nothing is kept", court.restore(1), false);
        court.image(0);
        said.due("nothing is kept there", court.restore(1), false);
        court.on(1);
        for (int wrong : new int[] {-1, 2, 3, Said.FAR, Said.DEEP}) {
            said.due("place " + wrong, court.restore(wrong), false);
        }
        said.due("nothing changed", court.undo(), 0);
        court.on(1);
        court.send(0, 0);
        court.order();
        Said.drowned(court, 0);
        Said.was(court, 0, 1, 3, 2);
        Said.changed(court, 1, 0, 3, 2);
        court.drawn(1, 5);
        int weather = court.weather(2);
        court.write(0);
        Check.pleas(court, "a wears z;");
        Check.tape(court, "own");
        said.due("restored", court.restore(0), true);
        said.due("the HOUR", court.count(4), 0);
        said.due("the tape stays", court.count(6), 3);
        said.due("its bytes stay", court.sentence(), 1);
        said.due("opened() stays", court.opened(0), 0);
        said.due("remains() stays", court.remains(0) >= 1, true);
        said.due("rows() stays", court.rows(1, 0), 1);
        said.due("first() stays", court.first(1), 0);
        said.due("weather() stays", court.weather(2), weather);
        said.due("byteAt() stays", court.byteAt(0), 's');
        said.due("nothing can be undone", court.undo(), NONE);
        said.due("restored again", court.restore(0), true);
        said.due("no SENTENCE", court.said(NONE), NONE);
        court.on(3);
        said.due("'went' as told, too", court.witness(0, 0), 1);
        said.coat(court, 0, 4, 2);
    }

    private void count() {
        said.says("Promise 48", "0 SCENTS, 1 PLACES, 2 WITNESSES, 3 smokes, 4 the HOUR, 5 CLOTHS, 6 bytes of the tape. "
                + "NONE for another what.");
        ScentCourt court = said.court("scent s 0;scent t 0;place p s 3;place q;place o;witness a 2 p;smoke s p q;smoke s p o;"
                + "smoke s q p;smoke t p q;went a 1 p;rain 1;rain 2;");
        court.on(60);
        court.send(0, 0);
        court.send(0, 0);
        court.feed(0, 0, 0, 0, 0);
        court.end(7);
        int[] counts = {2, 3, 1, 4, 60, 2, 7};
        for (int what = 0; what < counts.length; what++) {
            said.due("count " + what, court.count(what), counts[what]);
        }
        for (int wrong : new int[] {-1, 7, 8, Said.FAR, Said.DEEP}) {
            said.due("count " + wrong, court.count(wrong), NONE);
        }
    }
}
