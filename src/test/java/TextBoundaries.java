/** What the document says of texts: TOKENS, a HILL, PLEAS, a SENTENCE, FAULTS; promises 4, 5, 38 and 44. */
final class TextBoundaries {
    private static final int NONE = ScentCourt.NONE;
    private static final String TERMS = "Terms";
    // The first six begin LINES of a HILL.
    private static final String[] KEYS = {"scent", "place", "smoke", "witness", "went", "rain", "at", "smells", "wears", "or",
        "and", "not", "clean", "own", "sum", "most", "keep"};
    private static final String PEOPLE = "scent s 0;scent t 0;place p s 3 t 2;place q;witness a 2 p;witness b 5 q;";
    private static final String SIX_SCENTS = "scent a 0;scent b 0;scent c 0;scent d 0;scent e 0;scent f 0;";
    private static final String SIX_PLACES = "place g;place h;place i;place j;place k;place l;";
    private static final String SIX_WITNESSES =
            "witness m 1 g;witness n 1 g;witness o 1 g;witness p 1 g;witness q 1 g;witness r 1 g;";
    private static final String SIX_SMOKES = "smoke a g h;smoke a h g;smoke a g i;smoke b g h;smoke b h g;smoke b g i;";
    private static final String SIX_RAINS = "rain 1;rain 2;rain 3;rain 4;rain 5;rain 60;";

    private final Said said;

    TextBoundaries(Said said) {
        this.said = said;
    }

    void test() {
        blanks();
        words();
        numbers();
        signs();
        runs();
        hillLength();
        scentLine();
        placeLine();
        smokeLine();
        witnessLine();
        wentLine();
        rainLine();
        names();
        mostLines();
        numbered();
        pleasText();
        faultsFirst();
        faultsOfTokens();
        faultsOfLength();
        faultsOfNumbers();
        faultsOfNames();
        faultsOfLinesToldAgain();
        faultsOfTooMany();
        newHill();
        sentenceText();
        sentenceMeasures();
        sentenceOnes();
        sentenceDepth();
        sentenceFaults();
        promiseHill();
        promiseFault();
        promisePleas();
        promiseSentence();
    }

    private static String manyWents(int many) {
        StringBuilder text = new StringBuilder();
        for (int hour = 11; hour < 11 + many; hour++) {
            text.append("went m ").append(hour).append(" g;");
        }
        return text.toString();
    }

    private static String spaces(int many) {
        return Check.repeat(" ", many);
    }

    private void hill(String text, int lines) {
        ScentCourt court = new ScentCourt();
        said.due("HILL " + text, Check.hill(court, text), lines);
        said.due("FAULT of " + text, court.fault(), 0);
    }

    private void blanks() {
        said.says(TERMS, "TOKENS of all texts, with blanks (32, 10) between them or not");
        hill("rain 1;rain 2;", 2);
        hill("\n \n rain\n1 ; \n rain  2\n\n;\n ", 2);
        ScentCourt court = said.court(PEOPLE);
        said.due("a SENTENCE without a blank", Check.sentence(court, "not(own)and(clean)or(sum<3)"), 7);
        said.due("a SENTENCE with blanks", Check.sentence(court, "\nnot ( own )\nand ( clean )or\n\n(sum\n< 3 ) "), 7);
        said.due("PLEAS", Check.pleas(court, "a\nat  p ;b wears\nb;\n"), NONE);
        for (int other : new int[] {0, 1, 8, 9, 11, 12, 13, 31, 33, 127, 133, 160, 255}) {
            said.hillFault("rain 1^" + (char) other + ";", 1);
            said.hillFault("^" + (char) other + "rain 1;", 1);
            said.pleasFault(PEOPLE, "a^" + (char) other + "at p;", 1);
            said.sentenceFault(PEOPLE, "own^" + (char) other, 1);
        }
    }

    private void words() {
        said.says(TERMS, "WORDS: small letters, 1 to 7");
        ScentCourt court = said.court("scent a 0;scent z 0;scent abcdefg 0;scent tuvwxyz 0;"
                + "place p a 1 z 2 abcdefg 3 tuvwxyz 4;");
        for (int s = 0; s < 4; s++) {
            said.due("each is another one", court.air(0, s), s + 1);
        }
        said.hillFault("scent ^abcdefgh 0;", 1);
        said.hillFault("scent abcdefg 0;place p ^abcdefgh 1;", 1);
        said.hillFault("^raiiiiin 1;", 1);
        for (int other : new int[] {64, 65, 90, 91, 95, 96, 123, 225, 233}) {
            said.hillFault("scent ^" + (char) other + " 0;", 1);
            said.hillFault("scent a^" + (char) other + " 0;", 1);
        }
    }

    private void numbers() {
        said.says(TERMS, "NUMBERS: 1 to 3 digits");
        ScentCourt court = said.court("place p;witness a 009 p;witness b 01 p;witness c 5 p;rain 060;");
        said.due("three digits", court.witness(0, 2), 9);
        said.due("two digits", court.witness(1, 2), 1);
        said.due("one digit", court.witness(2, 2), 5);
        said.saidOf(court, "keep=005", 1, 2);
        said.saidOf(court, "keep<999", 1, 0, 1, 2);
        said.hillFault("rain ^0007;", 1);
        said.hillFault("rain ^1000;", 1);
        said.hillFault("rain ^18446744073709551617;", 1);
        said.sentenceFault(PEOPLE, "sum<^1000", 1);
        for (int other : new int[] {'/', ':', '+', '-', '.', ','}) {
            said.hillFault("rain ^" + (char) other + "1;", 1);
            said.hillFault("rain 1^" + (char) other + ";", 1);
        }
    }

    private void signs() {
        said.says(TERMS, "; < = > ( ) .");
        hill("rain 1;", 1);
        ScentCourt court = said.court(PEOPLE);
        said.due("< ( )", Check.sentence(court, "(sum<1)"), 2);
        said.due("=", Check.sentence(court, "most=1"), 1);
        said.due(">", Check.sentence(court, "keep>1"), 1);
        for (char sign : ";<=>().".toCharArray()) {
            said.hillFault("^" + sign, 1);
            said.hillFault("scent ^" + sign, 1);
            said.pleasFault(PEOPLE, "a at p;^" + sign, 1);
            if (sign != '(') {
                said.sentenceFault(PEOPLE, "own and ^" + sign, 1);
            }
        }
        for (char other : "'*:?!&|,".toCharArray()) {
            said.sentenceFault(PEOPLE, "sum^" + other + "1", 1);
            said.hillFault("rain 1^" + other, 1);
        }
    }

    private void runs() {
        said.says(TERMS, "A WORD, NUMBER goes on as long as small letters and digits do; what is not as told is no TOKEN.");
        hill("scent a 1;place p a 2;", 2);
        said.hillFault("scent a 1;place p ^a2;", 1);
        said.hillFault("^rain1;", 1);
        said.hillFault("scent ^a1 1;", 1);
        said.hillFault("scent ^1a 1;", 1);
        said.hillFault("scent ^abc1def 1;", 1);
        said.hillFault("rain ^1a;", 1);
        said.hillFault("rain ^1rain 2;", 1);
        said.pleasFault(PEOPLE, "^aat p;", 3);
        said.pleasFault(PEOPLE, "^a1 at p;", 1);
        said.sentenceFault(PEOPLE, "^notown", 1);
        said.sentenceFault(PEOPLE, "keep=^1or own", 1);
        said.sentenceFault(PEOPLE, "^sum1", 1);
    }

    private void hillLength() {
        said.says(TERMS, "A HILL is a text of at most 900 bytes: { LINE ; }. LINE:");
        hill("", 0);
        hill(" \n", 0);
        hill("rain 1;", 1);
        hill("rain 1;place p;rain 2;", 3);
        said.hillFault("^;", 1);
        said.hillFault("rain 1^", 1);
        said.hillFault("rain 1;^;", 1);
        said.hillFault("rain 1 ^rain 2;", 1);
        said.hillFault("^p 1;", 1);
        said.hillFault("^1;", 1);
        for (int i = 6; i < KEYS.length; i++) {
            said.hillFault("^" + KEYS[i] + " a 1;", 1);
        }
        hill(spaces(892) + "rain 1;", 1);
        hill(spaces(893) + "rain 1;", 1);
        hill("rain 1;" + spaces(893), 1);
        hill("rain 1" + spaces(893) + ";", 1);
        hill(spaces(900), 0);
        said.hillFault("rain 1;" + spaces(893) + "^ ", 1);
        said.hillFault(spaces(900) + "^ ", 1);
        said.hillFault("rain 1" + spaces(894) + "^;", 1);
        said.hillFault("rain 1;" + spaces(893) + "^" + spaces(40), 1);
    }

    private void scentLine() {
        said.says(TERMS, "'scent' NAME FADE (0 to 9)");
        ScentCourt court = said.court("scent a 0;scent b 9;scent c 5;");
        said.due("FADE 0", court.fade(0), 0);
        said.due("FADE 9", court.fade(1), 9);
        said.due("FADE between", court.fade(2), 5);
        said.hillFault("scent a ^10;", 2);
        said.hillFault("scent a ^999;", 2);
        said.hillFault("scent a^;", 1);
        said.hillFault("scent a 1 ^1;", 1);
        said.hillFault("scent ^1 a;", 1);
    }

    private void placeLine() {
        said.says(TERMS, "'place' NAME { SCENT N } (1 to 9; each SCENT once in it)");
        ScentCourt court = said.court(SIX_SCENTS + "place p;place q f 1 e 9 d 2 c 3 b 4 a 5;place r a 9;");
        int[][] airs = {{0, 0, 0, 0, 0, 0}, {5, 4, 3, 2, 9, 1}, {9, 0, 0, 0, 0, 0}};
        for (int p = 0; p < 3; p++) {
            for (int s = 0; s < 6; s++) {
                said.due("AIR of " + p + ", " + s, court.air(p, s), airs[p][s]);
            }
        }
        said.hillFault("scent a 1;place p a ^0;", 2);
        said.hillFault("scent a 1;place p a ^10;", 2);
        said.hillFault("scent a 1;place p a 1 ^a 1;", 3);
        said.hillFault(SIX_SCENTS + "place p a 1 b 1 c 1 d 1 e 1 f 1 ^f 1;", 3);
        said.hillFault("scent a 1;place p a^;", 1);
        said.hillFault("scent a 1;place p ^1 a;", 1);
        said.hillFault("scent a 1;place p a 1 ^1;", 1);
    }

    private void smokeLine() {
        said.says(TERMS, "'smoke' SCENT PLACE PLACE (unlike; each three once)");
        String base = "scent s 1;scent t 1;place p;place q;place r;";
        hill(base + "smoke s p q;smoke s q p;smoke t p q;smoke s p r;smoke s r q;", 10);
        hill(base + "smoke s q r;smoke t p r;smoke s p r;smoke t q r;", 9);
        said.hillFault(base + "smoke s q p;smoke s q ^p;", 3);
        said.hillFault(base + "smoke t r q;smoke t r ^q;", 3);
        said.hillFault(base + "smoke s p ^p;", 3);
        said.hillFault(base + "smoke s p q;smoke s p ^q;", 3);
        said.hillFault(base + "smoke s p q;smoke t p q;smoke s q p;smoke s p ^q;", 3);
        said.hillFault(base + "smoke s p^;", 1);
        said.hillFault(base + "smoke s p q ^r;", 1);
    }

    private void witnessLine() {
        said.says(TERMS, "'witness' NAME KEEP PLACE (1 to 9; where it is at first)");
        ScentCourt court = said.court("place p;place q;witness a 1 q;witness b 9 p;");
        said.due("KEEP 1", court.witness(0, 2), 1);
        said.due("KEEP 9", court.witness(1, 2), 9);
        said.due("a at first", court.witness(0, 0), 1);
        said.due("b at first", court.witness(1, 0), 0);
        said.hillFault("place p;witness a ^0 p;", 2);
        said.hillFault("place p;witness a ^10 p;", 2);
        said.hillFault("place p;witness a 1^;", 1);
        said.hillFault("place p;witness a ^p;", 1);
        said.hillFault("place p;witness a 1 p ^p;", 1);
    }

    private void wentLine() {
        said.says(TERMS, "'went' WITNESS HOUR PLACE (HOUR 1 to 60; each two once)");
        String base = "place p;place q;witness a 1 p;witness b 1 p;";
        ScentCourt court = said.court(base + "went a 1 q;went b 1 q;went a 60 q;went a 2 p;went b 2 q;");
        court.on(1);
        said.due("at HOUR 1", court.witness(0, 0), 1);
        court.on(1);
        said.due("at HOUR 2", court.witness(0, 0), 0);
        said.due("where it is", court.witness(1, 0), 1);
        court.on(57);
        said.due("at HOUR 59", court.witness(0, 0), 0);
        court.on(1);
        said.due("at HOUR 60", court.witness(0, 0), 1);
        said.hillFault(base + "went a ^0 q;", 2);
        said.hillFault(base + "went a ^61 q;", 2);
        said.hillFault(base + "went a 1 q;went a ^1 q;", 3);
        said.hillFault(base + "went a 60 q;went b 60 q;went a ^060 p;", 3);
        said.hillFault(base + "went a 1^;", 1);
        said.hillFault(base + "went a ^q 1;", 1);
    }

    private void rainLine() {
        said.says(TERMS, "'rain' HOUR (1 to 60; each once)");
        ScentCourt court = said.court("scent s 0;place p s 1;place o;witness a 1 p;rain 1;rain 60;");
        court.on(5);
        court.goes(0, 1);
        court.on(54);
        said.coat(court, 0, 5);
        court.on(1);
        said.coat(court, 0, 3);
        court.on(1);
        said.coat(court, 0, 3);
        said.hillFault("rain ^0;", 2);
        said.hillFault("rain ^61;", 2);
        said.hillFault("rain 60;rain 1;rain ^60;", 3);
        said.hillFault("rain 1;rain ^001;", 3);
        said.hillFault("rain^;", 1);
        said.hillFault("rain 1 ^2;", 1);
    }

    private void names() {
        said.says(TERMS, "NAME: a WORD, none of those told here, in PLEAS or a SENTENCE; told once.");
        for (String key : KEYS) {
            said.hillFault("scent ^" + key + " 1;", 1);
            said.hillFault("place ^" + key + ";", 1);
            said.hillFault("place p;witness ^" + key + " 1 p;", 1);
            said.hillFault("scent s 1;place p ^" + key + " 1;", 1);
            String less = key.substring(0, key.length() - 1);
            hill("scent " + less + " 1;place p " + less + " 1;", 2);
            if (key.length() < 7) {
                hill("place " + key + "s;witness a 1 " + key + "s;", 2);
            }
        }
        said.hillFault("scent a 1;scent ^a 1;", 3);
        said.hillFault("scent a 1;place ^a;", 3);
        said.hillFault("place a;scent ^a 1;", 3);
        said.hillFault("place a;place ^a;", 3);
        said.hillFault("place a;witness ^a 1 a;", 3);
        said.hillFault("place a;witness b 1 a;witness ^b 1 a;", 3);
        said.hillFault("place a;witness b 1 a;scent ^b 1;", 3);
        said.hillFault("place a;witness b 1 a;place ^b;", 3);
    }

    private void mostLines() {
        said.says(TERMS, "6 SCENTS, 6 PLACES, 6 smokes, 6 WITNESSES, 20 'went', 6 'rain' at most");
        ScentCourt court = said.court(SIX_SCENTS + SIX_PLACES + SIX_SMOKES + SIX_WITNESSES + manyWents(20) + SIX_RAINS);
        for (int what = 0; what < 4; what++) {
            said.due("count " + what, court.count(what), 6);
        }
        court = said.court(SIX_RAINS + SIX_PLACES + SIX_WITNESSES + manyWents(20) + SIX_SCENTS + SIX_SMOKES);
        for (int what = 0; what < 4; what++) {
            said.due("in another order, count " + what, court.count(what), 6);
        }
    }

    private void numbered() {
        said.says(TERMS, "SCENTS, PLACES, WITNESSES numbered from 0 each.");
        ScentCourt court = said.court("place p;scent s 3;witness a 2 p;scent t 4;place q t 1;witness b 5 q;");
        said.due("SCENT 0", court.fade(0), 3);
        said.due("SCENT 1", court.fade(1), 4);
        said.due("no SCENT 2", court.fade(2), NONE);
        said.due("PLACE 0", court.air(0, 1), 0);
        said.due("PLACE 1", court.air(1, 1), 1);
        said.due("WITNESS 0", court.witness(0, 2), 2);
        said.due("WITNESS 1", court.witness(1, 2), 5);
        said.due("where WITNESS 1 is", court.witness(1, 0), 1);
    }

    private void pleasText() {
        said.says(TERMS, "PLEAS are a text of at most 300 bytes: "
                + "{ WITNESS ( 'at' PLACE | 'smells' SCENT | 'wears' WITNESS ) ; }, 30 LINES at most.");
        ScentCourt court = said.court(PEOPLE);
        court.on(1);
        said.due("none", Check.pleas(court, ""), NONE);
        said.due("one of each", Check.pleas(court, "a at p;a smells s;a wears a;"), NONE);
        said.due("30 LINES", Check.pleas(court, Check.repeat("a at p;", 30)), NONE);
        said.due("the 30th", Check.pleas(court, Check.repeat("a at p;", 29) + "a at q;"), 29);
        said.pleasFault(PEOPLE, Check.repeat("a at p;", 30) + "^a at p;", 4);
        said.due("299 bytes", Check.pleas(court, "a at q;" + spaces(292)), 0);
        said.due("300 bytes", Check.pleas(court, spaces(293) + "a at q;"), 0);
        said.due("300 blanks", Check.pleas(court, spaces(300)), NONE);
        said.pleasFault(PEOPLE, "a at p;" + spaces(293) + "^ ", 1);
        said.pleasFault(PEOPLE, spaces(300) + "^\n", 1);
        said.pleasFault(PEOPLE, "a at p" + spaces(294) + "^;", 1);
        said.pleasFault(PEOPLE, "a at p;" + spaces(293) + "^" + spaces(640), 1);
        said.pleasFault(PEOPLE, "^;", 1);
        said.pleasFault(PEOPLE, "a at p^", 1);
        said.pleasFault(PEOPLE, "a at p;^;", 1);
        said.pleasFault(PEOPLE, "a ^p;", 1);
        said.pleasFault(PEOPLE, "a ^clean;", 1);
        said.pleasFault(PEOPLE, "a at ^;", 1);
        said.pleasFault(PEOPLE, "^at at p;", 1);
        said.pleasFault(PEOPLE, "a at p ^p;", 1);
        said.pleasFault(PEOPLE, "a at ^1;", 1);
    }

    private void faultsFirst() {
        said.says(TERMS, "FAULTS, the first along the text, of one TOKEN the least:");
        said.hillFault("scent a ^10;rain 0;rain;", 2);
        said.hillFault("rain 1;rain ^1;rain 61;!", 3);
        said.hillFault("rain 1^!rain 1;rain 0;", 1);
        said.hillFault(SIX_RAINS + "^rain 0;;", 4);
        said.hillFault("rain" + spaces(896) + "^61;", 1);
        said.pleasFault(PEOPLE, "a at ^s;b;", 3);
        said.pleasFault(PEOPLE, Check.repeat("a at p;", 30) + "^p at p;", 3);
        said.pleasFault(PEOPLE, Check.repeat("a at p;", 30) + "^at at p;", 1);
        said.sentenceFault(PEOPLE, "own" + Check.repeat(" or own", 19) + " or ^a", 1);
        said.sentenceFault(PEOPLE, Check.repeat("not ", 8) + "^and", 1);
        said.sentenceFault(PEOPLE, "at ^s or or", 3);
    }

    private void faultsOfTokens() {
        said.says(TERMS, "1 no TOKEN, or one that can't come (at it; the end: how many bytes there are;");
        said.hillFault("rain ^!", 1);
        said.hillFault("rain ^a;", 1);
        said.hillFault("rain ^;", 1);
        said.hillFault("rain^", 1);
        said.hillFault("rain 1^", 1);
        said.hillFault("rain 1  \n^", 1);
        said.hillFault("rain 1;  place^", 1);
        said.hillFault("rain 1" + spaces(894) + "^", 1);
        said.pleasFault(PEOPLE, "a^", 1);
        said.pleasFault(PEOPLE, "a at  ^", 1);
        said.pleasFault(PEOPLE, "a at p" + spaces(294) + "^", 1);
        said.sentenceFault(PEOPLE, "^", 1);
        said.sentenceFault(PEOPLE, "   ^", 1);
        said.sentenceFault(PEOPLE, "own and ^", 1);
        said.sentenceFault(PEOPLE, "own or" + spaces(194) + "^", 1);
    }

    private void faultsOfLength() {
        said.says(TERMS, "the most bytes told, if there are more and no FAULT is ahead: "
                + "TOKENS that begin ahead of it are read whole);");
        said.hillFault(spaces(894) + "rain ^6123", 1);
        said.hillFault(spaces(894) + "rain ^61;", 2);
        said.hillFault(spaces(894) + "rain 6^0;", 1);
        said.hillFault(spaces(896) + "rain^ 1;", 1);
        said.hillFault(spaces(897) + "rai^n 1;", 1);
        said.hillFault(spaces(897) + "^rains 1;", 1);
        said.hillFault("scent" + spaces(894) + "^abcdefgh 1;", 1);
        said.hillFault("scent" + spaces(894) + "a^bcdefg 1;", 1);
        said.hillFault("scent abc 1;place" + spaces(882) + "^abc;", 3);
        said.hillFault(SIX_RAINS + spaces(899 - SIX_RAINS.length()) + "^rain 7;", 4);
        said.hillFault(spaces(891) + "rain 1;^!;", 1);
        said.hillFault(spaces(892) + "rain 1;^!;", 1);
        said.hillFault(spaces(893) + "rain 1;^!;", 1);
        said.pleasFault("place pp;witness a 1 pp;", "a at" + spaces(295) + "p^p;", 1);
        said.pleasFault("place pp;witness a 1 pp;", "a at" + spaces(295) + "^pq;", 3);
        said.pleasFault("place pp;witness a 1 pp;", "a" + spaces(298) + "^pp pp;", 1);
        said.pleasFault("place pp;witness a 1 pp;", "a" + spaces(298) + "a^t pp;", 1);
        said.pleasFault("place pp;witness a 1 pp;", "a at" + spaces(296) + "^pq;", 1);
        said.sentenceFault(PEOPLE, "keep=" + spaces(194) + "9^99", 1);
        said.sentenceFault(PEOPLE, "keep=" + spaces(194) + "^9999", 1);
        said.sentenceFault(PEOPLE, "at" + spaces(197) + "^pp", 3);
        said.sentenceFault(PEOPLE, "at" + spaces(198) + "^pp", 1);
        said.sentenceFault(PEOPLE, spaces(199) + "o^wn", 1);
        said.sentenceFault(PEOPLE, spaces(199) + "^owns", 1);
    }

    private void faultsOfNumbers() {
        said.says(TERMS, "2 a NUMBER that is not as told (at it);");
        String base = "scent s 1;place p;witness a 1 p;";
        said.hillFault(base + "scent t ^10;", 2);
        said.hillFault(base + "place q s ^0;", 2);
        said.hillFault(base + "place q s ^10;", 2);
        said.hillFault(base + "witness b ^0 p;", 2);
        said.hillFault(base + "witness b ^10 p;", 2);
        said.hillFault(base + "went a ^0 p;", 2);
        said.hillFault(base + "went a ^61 p;", 2);
        said.hillFault(base + "rain ^000;", 2);
        said.hillFault(base + "rain ^061;", 2);
        said.hillFault(base + "rain ^999", 2);
    }

    private void faultsOfNames() {
        said.says(TERMS, "3 a NAME told twice, not told, or of another sort, a SCENT told again in a PLACE (at it),");
        String base = "scent s 1;place p;witness a 1 p;";
        for (String name : new String[] {"s", "p", "a"}) {
            said.hillFault(base + "scent ^" + name + " 1;", 3);
            said.hillFault(base + "place ^" + name + ";", 3);
            said.hillFault(base + "witness ^" + name + " 1 p;", 3);
        }
        for (String noScent : new String[] {"p", "a", "z"}) {
            said.hillFault(base + "place q ^" + noScent + " 1;", 3);
            said.hillFault(base + "smoke ^" + noScent + " p p;", 3);
            said.pleasFault(base, "a smells ^" + noScent + ";", 3);
            said.sentenceFault(base, "smells ^" + noScent, 3);
        }
        for (String noPlace : new String[] {"s", "a", "z"}) {
            said.hillFault(base + "smoke s ^" + noPlace + " p;", 3);
            said.hillFault(base + "smoke s p ^" + noPlace + ";", 3);
            said.hillFault(base + "witness b 1 ^" + noPlace + ";", 3);
            said.hillFault(base + "went a 1 ^" + noPlace + ";", 3);
            said.pleasFault(base, "a at ^" + noPlace + ";", 3);
            said.sentenceFault(base, "at ^" + noPlace, 3);
        }
        for (String noWitness : new String[] {"s", "p", "z"}) {
            said.hillFault(base + "went ^" + noWitness + " 1 p;", 3);
            said.pleasFault(base, "^" + noWitness + " at p;", 3);
            said.pleasFault(base, "a wears ^" + noWitness + ";", 3);
        }
        said.hillFault("place p ^s 1;scent s 1;", 3);
        said.hillFault("witness a 1 ^p;place p;", 3);
        said.hillFault("scent s 1;place p ^p 1;", 3);
        said.hillFault("place p;witness a 1 ^a;", 3);
        said.hillFault("scent s 1;scent t 1;place p s 1 t 1 ^s 1;", 3);
    }

    private void faultsOfLinesToldAgain() {
        said.says(TERMS, "smoke told again or to where it comes from (at the second PLACE), "
                + "'went', 'rain' told again (at the HOUR);");
        String base = "scent s 1;place p;place q;witness a 1 p;smoke s p q;went a 7 p;rain 7;";
        hill(base + "smoke s q p;went a 8 p;rain 8;", 10);
        said.hillFault(base + "smoke s p ^q;", 3);
        said.hillFault(base + "smoke s q ^q;", 3);
        said.hillFault(base + "smoke s p ^q", 3);
        said.hillFault(base + "went a ^7 p;", 3);
        said.hillFault(base + "went a ^7 s;", 3);
        said.hillFault(base + "went a ^07", 3);
        said.hillFault(base + "rain ^7;", 3);
        said.hillFault(base + "rain ^007", 3);
    }

    private void faultsOfTooMany() {
        said.says(TERMS, "4 a seventh SCENT, PLACE, smoke, WITNESS, rain, a 21st 'went', a 31st LINE of PLEAS "
                + "(at the LINE's first WORD).");
        for (String line : new String[] {"scent g 1;", "scent a 1;", "scent g 10;", "scent", "scent ;"}) {
            said.hillFault(SIX_SCENTS + "^" + line, 4);
        }
        for (String line : new String[] {"place z;", "place g;", "place 1;", "place"}) {
            said.hillFault(SIX_PLACES + "^" + line, 4);
        }
        String base = SIX_SCENTS + SIX_PLACES;
        for (String line : new String[] {"smoke f k l;", "smoke a g h;", "smoke a g g;", "smoke z z z;", "smoke"}) {
            said.hillFault(base + SIX_SMOKES + "^" + line, 4);
        }
        for (String line : new String[] {"witness z 1 g;", "witness m 1 g;", "witness z 0 g;", "witness"}) {
            said.hillFault(SIX_PLACES + SIX_WITNESSES + "^" + line, 4);
        }
        for (String line : new String[] {"rain 10;", "rain 1;", "rain 61;", "rain"}) {
            said.hillFault(SIX_RAINS + "^" + line, 4);
        }
        base = SIX_PLACES + "witness m 1 g;witness n 1 g;";
        hill(base + manyWents(20) + "rain 1;", 29);
        for (String line : new String[] {"went m 60 h;", "went m 11 g;", "went n 11 g;", "went z 1 g;", "went"}) {
            said.hillFault(base + manyWents(20) + "^" + line, 4);
        }
        for (String line : new String[] {"a at p;", "b wears a;", "a at z;", "a smells p;", "a;", "a"}) {
            said.pleasFault(PEOPLE, Check.repeat("a at q;", 30) + "^" + line, 4);
        }
    }

    private void newHill() {
        said.says(TERMS, "A new HILL: HOUR 0, no CLOTHS, no SENTENCE; nothing can be undone "
                + "(what other calls told last stays). A call that throws changes nothing.");
        ScentCourt court = toldMuch();
        for (String text : new String[] {PEOPLE, PEOPLE}) {
            court.on(2);
            court.change(0, 1);
            court.goes(1, 0);
            court.send(1, 2);
            Check.sentence(court, "own");
            said.due("the HILL", Check.hill(court, text), 6);
            said.due("HOUR 0", court.count(4), 0);
            said.due("no CLOTHS", court.count(5), 0);
            said.due("no CLOTH", court.cloth(0, 0), NONE);
            said.due("no SENTENCE", court.said(NONE), NONE);
            said.due("nothing can be undone", court.undo(), NONE);
            said.due("its own COAT", court.witness(0, 1), 0);
            said.due("where it is at first", court.witness(1, 0), 1);
            said.coat(court, 0, 0, 0);
            said.coat(court, 1, 0, 0);
        }
        said.due("opened() stays", court.opened(0), 0);
        said.due("remains() stays", court.remains(0), 3);
        said.due("rows() stays", court.rows(1, 0), 1);
        said.due("first() stays", court.first(1), 0);
        said.due("changeAt() stays", court.changeAt(0), 1002);
        said.due("weather() stays", court.weather(0) >= 0, true);
        said.due("byteAt() stays", court.byteAt(0), 's');
        said.due("an image stays", court.restore(1), true);
        said.due("the HOUR of the image", court.count(4), 2);
        throwsChangeNothing(court);
        hillsToldAgain();
    }

    /** Nothing of a HILL, nor of one with a FAULT, is told for the next. */
    private void hillsToldAgain() {
        ScentCourt court = new ScentCourt();
        String most = SIX_SCENTS + SIX_PLACES + SIX_SMOKES + SIX_WITNESSES + manyWents(20) + SIX_RAINS;
        for (int time = 0; time < 2; time++) {
            said.due("the same HILL", Check.hill(court, most), 50);
            said.due("a FAULT at its end", Check.hill(court, most + "rain 7;"), -1 - most.length());
        }
        said.due("a lesser HILL", Check.hill(court, "scent a 0;place h;place g a 4;witness m 1 g;"), 4);
        said.due("no smoke in it", court.air(0, 0), 0);
        court.on(2);
        said.coat(court, 0, 2 * 4);
        court.on(18);
        said.coat(court, 0, 20 * 4);
        said.due("a HILL without it", Check.hill(court, "scent a 0;place h a 1;witness m 1 h;"), 3);
        court.on(60);
        said.coat(court, 0, 60);
    }

    /** A court of which each call that tells something for later was asked. */
    private ScentCourt toldMuch() {
        ScentCourt court = said.court(PEOPLE);
        court.on(1);
        court.send(0, 0);
        said.due("order", court.order(), 1);
        said.due("drowned", Said.drowned(court, 0), NONE);
        said.due("was", Said.was(court, 0, 1, 3, 2), 1);
        court.on(1);
        said.due("changed", Said.changed(court, 3, 2, 3, 2), 1);
        said.due("written", court.write(0), 8);
        said.due("an image", court.image(1), true);
        said.due("drawn", court.drawn(1, 1), 3);
        return court;
    }

    private void throwsChangeNothing(ScentCourt court) {
        court.on(1);
        court.send(0, 0);
        String before = Said.all(court);
        Check.tape(court, "own");
        int thrown = 0;
        for (int wrong : new int[] {-1, 2, 5, Said.FAR, Said.DEEP}) {
            thrown += Throws.air(court, wrong, 0) ? 1 : 0;
            thrown += Throws.air(court, 0, wrong) ? 1 : 0;
            thrown += Throws.witness(court, wrong, 0) ? 1 : 0;
            thrown += Throws.witness(court, 0, wrong == 2 ? 6 : wrong) ? 1 : 0;
        }
        said.due("calls that threw", thrown, 20);
        said.due("all is as it was", Said.all(court), before);
        said.due("the tape, too", court.count(6), 3);
        said.due("its bytes, too", court.sentence(), 1);
        said.due("what can be undone, too", court.undo(), 1);
    }

    private void sentenceText() {
        said.says(TERMS, "A SENTENCE is a text of at most 200 bytes: COND: ALL { 'or' ALL }. ALL: ONE { 'and' ONE }. "
                + "ONE: 'not' ONE | ( COND ) | 'clean' (the COAT that it wears is) | 'own' (it wears its own) | "
                + "'at' PLACE | 'smells' SCENT |");
        ScentCourt court = said.court(PEOPLE);
        court.on(1);
        said.saidOf(court, "clean", 1, 1);
        said.saidOf(court, "own", 1, 0, 1);
        said.saidOf(court, "at p", 1, 0);
        said.saidOf(court, "at q", 1, 1);
        said.saidOf(court, "smells s", 1, 0);
        said.saidOf(court, "not clean", 2, 0);
        said.saidOf(court, "own or own and clean", 3, 0, 1);
        said.saidOf(court, "clean and clean or own", 3, 0, 1);
        said.saidOf(court, "(own or own) and clean", 4, 1);
        said.saidOf(court, "clean and (clean or own)", 4, 1);
        said.saidOf(court, "not own or own", 3, 0, 1);
        said.saidOf(court, "not own and own", 3);
        said.saidOf(court, "not (own and clean)", 4, 0);
        said.saidOf(court, "at p or at q or clean", 3, 0, 1);
        said.saidOf(court, "own and own and clean", 3, 1);
        court.change(0, 1);
        said.saidOf(court, "own", 1);
        said.saidOf(court, "clean", 1, 0);
        said.saidOf(court, "smells t", 1, 1);
        said.saidOf(court, "at p", 1, 0);
        ScentCourt some = said.court("scent s 0;scent t 0;place p t 1;witness a 1 p;");
        some.on(1);
        said.saidOf(some, "smells t", 1, 0);
        said.saidOf(some, "smells s", 1);
        said.saidOf(some, "clean", 1);
        said.due("199 bytes", Check.sentence(court, "own" + spaces(196)), 1);
        said.due("200 bytes", Check.sentence(court, spaces(197) + "own"), 1);
        said.due("200 bytes", Check.sentence(court, "(own" + spaces(195) + ")"), 2);
        said.sentenceFault(PEOPLE, "own" + spaces(197) + "^ ", 1);
        said.sentenceFault(PEOPLE, "(own" + spaces(196) + "^)", 1);
        said.sentenceFault(PEOPLE, "own" + spaces(197) + "^" + spaces(740), 1);
    }

    private void sentenceMeasures() {
        said.says(TERMS, "( 'sum' | 'most' | 'keep' ) SIGN NUMBER (of the COAT that it wears: all SCENTS together, "
                + "the strongest one's, its KEEP). SIGN: < = >.");
        ScentCourt court = said.court(PEOPLE);
        court.on(1);
        String[] both = {"sum<6", "sum>000 or clean", "most<4", "most<999", "keep>1", "keep<6", "keep<999"};
        String[] first = {"sum=5", "sum>4", "sum>0", "most=3", "most>2", "most>0", "keep=2", "keep<3"};
        String[] second = {"sum<5", "sum<1", "sum=0", "most<3", "most=0", "most<1", "keep=5", "keep>2", "keep>4"};
        String[] nobody = {"sum<0", "sum>5", "sum=4", "sum=6", "most<0", "most>3", "most=2", "keep<2", "keep=0", "keep>5",
            "keep>999", "sum=999"};
        for (String text : both) {
            saidOf(court, text, 0, 1);
        }
        for (String text : first) {
            saidOf(court, text, 0);
        }
        for (String text : second) {
            saidOf(court, text, 1);
        }
        for (String text : nobody) {
            saidOf(court, text);
        }
        court.change(0, 1);
        saidOf(court, "keep=5", 0);
        saidOf(court, "sum=5", 1);
        saidOf(court, "most=3", 1);
        ScentCourt full = said.court(SIX_SCENTS + "place p a 9 b 9 c 9 d 9 e 9 f 9;witness w 1 p;");
        full.on(12);
        saidOf(full, "sum=594", 0);
        saidOf(full, "most=99", 0);
        saidOf(full, "sum>594 or most>99");
        ScentCourt strong = said.court("scent s 0;scent t 0;place p s 2 t 7;witness a 1 p;");
        strong.on(1);
        saidOf(strong, "most=7", 0);
        saidOf(strong, "most=2");
    }

    private void saidOf(ScentCourt court, String text, int... whom) {
        said.saidOf(court, text, text.contains(" or ") ? 2 : 1, whom);
    }

    private void sentenceOnes() {
        said.says(TERMS, "20 ONES, 8 within one another.");
        ScentCourt court = said.court(PEOPLE);
        court.on(1);
        said.saidOf(court, Check.repeat("clean or ", 19) + "own", 20, 0, 1);
        said.saidOf(court, Check.repeat("own and ", 19) + "clean", 20, 1);
        said.saidOf(court, Check.repeat("own and ", 19) + "sum>4", 20, 0);
        said.saidOf(court, Check.repeat("clean or ", 19) + "keep<3", 20, 0, 1);
        said.saidOf(court, Check.repeat("own and ", 19) + "at q", 20, 1);
        said.saidOf(court, Check.repeat("not(own)or ", 6) + "not own", 20);
        said.saidOf(court, "((" + Check.repeat("own and ", 17) + "clean))", 20, 1);
        said.saidOf(court, Check.repeat("not ", 7) + "own", 8);
        said.saidOf(court, Check.repeat("not ", 6) + "own", 7, 0, 1);
        said.saidOf(court, Check.repeat("(", 7) + "own" + Check.repeat(")", 7), 8, 0, 1);
        said.saidOf(court, "not(not(not(not own)))", 8, 0, 1);
        said.saidOf(court, Check.repeat("(", 7) + "own and clean" + Check.repeat(")", 7), 9, 1);
        said.saidOf(court, Check.repeat("not ", 7) + "own or " + Check.repeat("not ", 7) + "clean", 16, 0);
    }

    private void sentenceDepth() {
        said.says(TERMS, "4 a 21st ONE, a ninth within (at its first TOKEN).");
        String twenty = Check.repeat("own or ", 20);
        for (String one : new String[] {"own", "clean", "at p", "at z", "smells", "sum=1", "most", "not own", "not", "(own)", "("}) {
            said.sentenceFault(PEOPLE, twenty + "^" + one, 4);
            said.sentenceFault(PEOPLE, Check.repeat("not ", 8) + "^" + one, 4);
            said.sentenceFault(PEOPLE, Check.repeat("(", 8) + "^" + one, 4);
            said.sentenceFault(PEOPLE, Check.repeat("not(", 4) + "^" + one, 4);
        }
        said.sentenceFault(PEOPLE, "(" + Check.repeat("own or ", 19) + "^own)", 4);
        said.sentenceFault(PEOPLE, Check.repeat("(", 7) + "own and (^own))))))))", 4);
        said.sentenceFault(PEOPLE, Check.repeat("not(own)or ", 6) + "not not ^own", 4);
    }

    private void sentenceFaults() {
        said.says(TERMS, "FAULTS: 1, 3 (no such PLACE, SCENT),");
        said.sentenceFault(PEOPLE, "^", 1);
        said.sentenceFault(PEOPLE, "^;", 1);
        said.sentenceFault(PEOPLE, "own^;", 1);
        said.sentenceFault(PEOPLE, "own ^own", 1);
        said.sentenceFault(PEOPLE, "own or ^and own", 1);
        said.sentenceFault(PEOPLE, "^or own", 1);
        said.sentenceFault(PEOPLE, "(own^", 1);
        said.sentenceFault(PEOPLE, "(^)", 1);
        said.sentenceFault(PEOPLE, "own^)", 1);
        said.sentenceFault(PEOPLE, "((own)^", 1);
        said.sentenceFault(PEOPLE, "^a", 1);
        said.sentenceFault(PEOPLE, "^1", 1);
        said.sentenceFault(PEOPLE, "^scent s", 1);
        said.sentenceFault(PEOPLE, "not^", 1);
        said.sentenceFault(PEOPLE, "sum ^1", 1);
        said.sentenceFault(PEOPLE, "sum<^<1", 1);
        said.sentenceFault(PEOPLE, "sum<^s", 1);
        said.sentenceFault(PEOPLE, "sum<^", 1);
        said.sentenceFault(PEOPLE, "at ^own", 1);
        said.sentenceFault(PEOPLE, "at ^1", 1);
        said.sentenceFault(PEOPLE, "at ^s", 3);
        said.sentenceFault(PEOPLE, "smells ^p", 3);
        said.sentenceFault(PEOPLE, "smells ^a", 3);
        said.sentenceFault("", "at ^p", 3);
        said.sentenceFault("", "smells ^s", 3);
        said.says(TERMS, "It is said of WITNESSES.");
        ScentCourt court = new ScentCourt();
        said.saidOf(court, "own", 1);
        court = said.court(PEOPLE);
        said.saidOf(court, "own", 1, 0, 1);
        said.saidOf(court, "not own", 2);
    }

    private void promiseHill() {
        said.says("Promise 4", "The tape (empty then, with a FAULT, too, here and below) is the HILL now: how many LINES; "
                + "-1 less the place of a FAULT: it stays.");
        ScentCourt court = new ScentCourt();
        said.due("no LINES", court.hill(), 0);
        String most = SIX_SCENTS + SIX_PLACES + SIX_SMOKES + SIX_WITNESSES + manyWents(20) + SIX_RAINS;
        said.due("50 LINES", Check.hill(court, most), 50);
        said.due("the tape is empty then", court.count(6), 0);
        said.due("a FAULT at 0", Check.hill(court, "!"), -1);
        said.due("the tape is empty with a FAULT", court.count(6), 0);
        said.due("a FAULT at 900", Check.hill(court, spaces(940)), -901);
        said.due("the HILL stays", court.count(0), 6);
        court = said.court(PEOPLE);
        court.on(1);
        court.change(0, 1);
        court.goes(0, 1);
        court.send(0, 1);
        Check.sentence(court, "smells s");
        String before = Said.all(court);
        for (String fault : new String[] {"!", "scent x 1;scent", "scent s 1;place p s 10;", "rain 1;rain 1;", SIX_RAINS + "rain 7;",
            spaces(901)}) {
            said.due("a FAULT", Check.hill(court, fault) < 0, true);
            said.due("all stays", Said.all(court), before);
            said.due("the SENTENCE stays", court.said(0), 1);
        }
        said.due("what can be undone stays", court.undo(), 3);
        said.due("the HILL's words stay", Check.pleas(court, "a at x;"), -7);
        tapesAreEmpty();
    }

    private void tapesAreEmpty() {
        ScentCourt court = said.court(PEOPLE);
        court.on(1);
        court.send(0, 0);
        said.due("drowned", Said.drowned(court, 0), NONE);
        said.due("empty then", court.count(6), 0);
        said.due("drowned, not as told", Said.drowned(court, 1), -2);
        said.due("empty then", court.count(6), 0);
        said.due("was", Said.was(court, 0, 1, 3, 2), 1);
        said.due("empty then", court.count(6), 0);
        said.due("was, not as told", Said.was(court, 0, 1, 3), NONE);
        said.due("empty then", court.count(6), 0);
        said.due("changed", Said.changed(court, 0, 0, 3, 2), 1);
        said.due("empty then", court.count(6), 0);
        said.due("changed, not as told", Said.changed(court, 3), NONE);
        said.due("empty then", court.count(6), 0);
        said.due("pleas", Check.pleas(court, "a at p;"), NONE);
        said.due("empty then", court.count(6), 0);
        said.due("sentence", Check.sentence(court, "own"), 1);
        said.due("empty then", court.count(6), 0);
        court.feed(0, 0, 0, 0, 0);
        said.due("a new tape", court.count(6), 20);
    }

    private void promiseFault() {
        said.says("Promise 5", "The kind of the FAULT of the latest hill(), pleas() or sentence(); 0 without one and ahead of any.");
        ScentCourt court = new ScentCourt();
        said.due("ahead of any", court.fault(), 0);
        Check.tape(court, "!");
        said.due("not read yet", court.fault(), 0);
        court.hill();
        said.due("1", court.fault(), 1);
        Check.hill(court, "rain 0;");
        said.due("2", court.fault(), 2);
        Said.drowned(court, 9);
        Said.was(court, 0, 1, 9, 9);
        Said.changed(court, 9);
        court.on(1);
        said.due("other calls tell none", court.fault(), 2);
        Check.hill(court, PEOPLE);
        said.due("without one", court.fault(), 0);
        Check.pleas(court, "a at s;");
        said.due("3", court.fault(), 3);
        Check.pleas(court, "a at q;");
        said.due("a LINE that is not so is no FAULT", court.fault(), 0);
        Check.sentence(court, Check.repeat("not ", 9) + "own");
        said.due("4", court.fault(), 4);
        Check.hill(court, "");
        said.due("without one", court.fault(), 0);
        Check.sentence(court, "");
        said.due("1", court.fault(), 1);
        Check.pleas(court, "");
        said.due("without one", court.fault(), 0);
    }

    private void promisePleas() {
        said.says("Promise 38", "The tape are PLEAS: the LINE that is not so (from 0); NONE: all are; -2 less the place of a FAULT.");
        ScentCourt court = said.court(PEOPLE);
        court.on(1);
        said.due("none are all", court.pleas(), NONE);
        said.due("all are", Check.pleas(court, "a at p;b at q;a smells t;b wears b;"), NONE);
        said.due("LINE 0", Check.pleas(court, "a at q;"), 0);
        said.due("LINE 1", Check.pleas(court, "a at p;b smells s;a at p;"), 1);
        said.due("the first of two", Check.pleas(court, "a at p;b at p;a wears b;"), 1);
        said.due("LINE 29", Check.pleas(court, Check.repeat("b at q;", 29) + "a wears b;"), 29);
        said.due("a FAULT at 0", Check.pleas(court, "p at p;"), -2);
        said.due("a FAULT behind a LINE that is not so", Check.pleas(court, "a at q;b"), -10);
        said.due("its kind", court.fault(), 1);
        said.due("a FAULT at 300", Check.pleas(court, spaces(301)), -302);
    }

    private void promiseSentence() {
        said.says("Promise 44",
                "The tape is the SENTENCE now: how many ONES (each not, bracket and other one); -1 less the place of a FAULT: it stays.");
        ScentCourt court = said.court(PEOPLE);
        said.due("one", Check.sentence(court, "own"), 1);
        said.due("each not", Check.sentence(court, "not not own"), 3);
        said.due("each bracket", Check.sentence(court, "((own))"), 3);
        said.due("'and', 'or' are none", Check.sentence(court, "own and own or own"), 3);
        said.due("SIGN, NUMBER, PLACE are none", Check.sentence(court, "sum < 3 and at p"), 2);
        said.due("20", Check.sentence(court, Check.repeat("own or ", 19) + "at p"), 20);
        said.due("said of", court.said(NONE), 2);
        Check.sentence(court, "at q");
        for (String fault : new String[] {"", "own or", "at x", Check.repeat("own or ", 20) + "own", spaces(201)}) {
            said.due("a FAULT", Check.sentence(court, fault) < 0, true);
            said.due("it stays", court.said(NONE), 1);
            said.due("of whom", court.said(0), 1);
        }
        said.due("a FAULT at 0", Check.sentence(court, "a"), -1);
        said.due("a FAULT at 200", Check.sentence(court, "own" + spaces(198)), -201);
        Check.hill(court, PEOPLE);
        said.due("a FAULT with no SENTENCE", Check.sentence(court, "a"), -1);
        said.due("there is none", court.said(NONE), NONE);
    }
}
