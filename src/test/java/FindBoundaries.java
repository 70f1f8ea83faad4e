/** What the document says of DOGS, PLEAS that are judged and HOURS that are drawn; promises 29 to 37, 39 to 43 and 45. */
final class FindBoundaries {
    private static final int NONE = ScentCourt.NONE;
    private static final String TERMS = "Terms";
    private static final String PEOPLE = "scent s 0;scent t 0;place p s 3 t 2;place q;witness a 2 p;witness b 5 q;";
    private static final String CROWD = "scent s 1;scent t 0;place p s 3 t 2;place q t 9;place o;"
            + "witness a 2 p;witness b 5 q;witness c 1 o;went b 2 o;went a 5 q;";
    private static final int[] WRONG = {-1, 8, 9, Said.FAR, Said.DEEP};

    private final Said said;
    private int x;

    FindBoundaries(Said said) {
        this.said = said;
    }

    void test() {
        dogs();
        judged();
        drawing();
        drawnRain();
        drawnFew();
        promiseDog();
        promiseUnlike();
        promiseAlike();
        promiseKitchen();
        promiseThread();
        promiseSource();
        promiseStrangers();
        promiseWearer();
        promiseClean();
        cleanFar();
        promiseDrawn();
        promiseWeather();
        promiseOdds();
        oddsBySeeds();
        promiseWrite();
        promiseByteAt();
        promiseSaid();
    }

    private void dogs() {
        said.says(TERMS, "A DOG finds the COAT that is least unlike a CLOTH (differences of all SCENTS together; "
                + "of like ones the first).");
        ScentCourt court = said.court(Said.smells(new int[] {3, 3}, new int[] {5, 0}, new int[] {0, 5}));
        court.send(0, 0);
        court.on(1);
        said.due("6, 5 and 5: of like ones the first", court.dog(0), 1);
        court.soap(2);
        said.due("nothing at all", court.dog(0), 2);
        court = said.cut(new int[] {2, 0}, new int[] {4, 0}, new int[] {3, 0});
        said.due("0", court.dog(2), 2);
        court.soap(2);
        said.due("one more and one less are like", court.dog(2), 0);
        court.soap(0);
        said.due("the second", court.dog(2), 1);
        court = said.cut(new int[] {4, 1}, new int[] {1, 4}, new int[] {2, 3});
        court.soap(2);
        said.due("all SCENTS together: 4, 2 and 5", court.dog(2), 1);
        court.change(0, 1);
        said.due("COATS, whoever wears them", court.dog(2), 1);
    }

    private void judged() {
        said.says(TERMS, "PLEAS are judged LINE by LINE, as it is now: whether one is at a PLACE, "
                + "whether the COAT that it wears has some of a SCENT, whether it wears that one's COAT.");
        ScentCourt court = said.court("scent s 0;scent t 0;place p s 1;place q t 1;witness a 1 p;witness b 1 q;");
        said.due("clean", Check.pleas(court, "a at p;a wears a;a smells s;"), 2);
        court.on(1);
        said.due("some is 1", Check.pleas(court, "a smells s;b smells t;"), NONE);
        said.due("none of another", Check.pleas(court, "a smells t;"), 0);
        said.due("LINE by LINE", Check.pleas(court, "a at p;b at q;a at q;b at p;"), 2);
        court.change(0, 1);
        said.due("the COAT that it wears", Check.pleas(court, "a smells t;b smells s;a smells s;"), 2);
        said.due("that one's", Check.pleas(court, "a wears b;b wears a;b wears b;"), 2);
        court.goes(0, 1);
        said.due("as it is now", Check.pleas(court, "a at q;a at p;"), 1);
        court.soap(0);
        said.due("as it is now", Check.pleas(court, "b smells s;a smells t;"), 1);
        court.undo();
        said.due("as it is now", Check.pleas(court, "b smells s;a smells t;"), NONE);
    }

    private int draw(int n) {
        x = x * 1103515245 + 12345;
        return (x >>> 8) % n;
    }

    /** One HOUR by hand, but for the rain: adds up CHANGES and how often one went; whether rain is drawn. */
    private boolean drawHour(ScentCourt court, int[] weather) {
        for (int w = 0; w < court.count(2); w++) {
            if (draw(3) == 0) {
                court.goes(w, draw(court.count(1)));
                weather[2]++;
            }
        }
        if (draw(8) == 0 && court.change(draw(court.count(2)), draw(court.count(2)))) {
            weather[1]++;
        }
        boolean rains = draw(5) == 0;
        weather[0] += rains ? 1 : 0;
        court.on(1);
        return rains;
    }

    private void weather(ScentCourt court, int... due) {
        for (int what = 0; what < due.length; what++) {
            said.due("weather " + what, court.weather(what), due[what]);
        }
    }

    private void drawing() {
        said.says(TERMS, "DRAWN by a seed x: for each draw of n x becomes x * 1103515245 + 12345 (an int, wrapping), "
                + "the draw is (x >>> 8) % n: HOUR by HOUR: WITNESS by WITNESS a draw of 3: 0: a draw of all PLACES: it goes there; "
                + "then a draw of 8: 0: draws of all WITNESSES, twice: these CHANGE (if they are two); then a draw of 5: 0: rain; "
                + "then the HOUR (rain as told, too; 'went' as told, too).");
        int changes = 0;
        for (int seed : new int[] {0, 1, 2, -1, 12345, -77777777, Said.FAR, Said.DEEP}) {
            for (int hours : new int[] {1, 2, 5, 20}) {
                ScentCourt court = said.court(CROWD);
                ScentCourt byHand = said.court(CROWD);
                int[] weather = new int[3];
                x = seed;
                for (int hour = 1; hour <= hours; hour++) {
                    drawHour(byHand, weather);
                }
                said.due("the HOUR", court.drawn(hours, seed), hours);
                weather(court, weather);
                changes += weather[1];
                for (int w = 0; w < 3; w++) {
                    said.due("where " + w + " is", court.witness(w, 0), byHand.witness(w, 0));
                    said.due("what " + w + " wears", court.witness(w, 1), byHand.witness(w, 1));
                }
            }
        }
        said.due("some of them CHANGED", changes > 0, true);
    }

    private void drawnRain() {
        said.says(TERMS, "then a draw of 5: 0: rain; then the HOUR (rain as told, too; 'went' as told, too).");
        int rains = 0;
        for (int seed = 0; seed < 40; seed++) {
            StringBuilder rain = new StringBuilder("rain 4;");
            ScentCourt byHand = said.court(CROWD);
            x = seed;
            int many = 1;
            for (int hour = 1; hour <= 6; hour++) {
                if (drawHour(byHand, new int[3]) && hour != 4) {
                    rain.append("rain ").append(hour).append(';');
                    many++;
                }
            }
            ScentCourt court = said.court(CROWD + "rain 4;");
            said.due("drawn", court.drawn(6, seed), 6);
            ScentCourt told = said.court(CROWD + rain);
            x = seed;
            for (int hour = 1; hour <= 6; hour++) {
                drawHour(told, new int[3]);
            }
            said.due("as with " + many + " rains that are told", Said.all(court), Said.all(told));
            rains += many;
        }
        said.due("it rained", rains > 40, true);
    }

    private void drawnFew() {
        said.says(TERMS, "these CHANGE (if they are two)");
        ScentCourt alone = said.court("place p;witness a 1 p;");
        int[] weather = new int[3];
        ScentCourt byHand = said.court("place p;witness a 1 p;");
        x = 5;
        for (int hour = 1; hour <= 60; hour++) {
            drawHour(byHand, weather);
        }
        said.due("60 HOURS", alone.drawn(60, 5), 60);
        said.due("one is never two", alone.weather(1), 0);
        said.due("it went where it was", alone.weather(2) > 9, true);
        weather(alone, weather);
        boolean one = false;
        boolean two = false;
        for (int seed = 0; seed < 200; seed++) {
            x = seed;
            boolean quiet = draw(3) != 0 && draw(3) != 0 && draw(8) == 0;
            if (quiet) {
                int a = draw(2);
                int b = draw(2);
                ScentCourt court = said.court(PEOPLE);
                court.drawn(1, seed);
                said.due("CHANGES of " + a + " and " + b, court.weather(1), a == b ? 0 : 1);
                said.due("what 0 wears", court.witness(0, 1), a == b ? 0 : 1);
                one |= a == b;
                two |= a != b;
            }
        }
        said.due("one was drawn twice", one, true);
        said.due("two were drawn", two, true);
    }

    private void promiseDog() {
        said.says("Promise 29", "Which COAT a DOG finds by a CLOTH; NONE: no such one.");
        ScentCourt court = said.cut(new int[] {1, 0}, new int[] {0, 1});
        said.due("the first", court.dog(0), 0);
        said.due("the last", court.dog(1), 1);
        said.due("no CLOTH 2", court.dog(2), NONE);
        for (int wrong : WRONG) {
            said.due("CLOTH " + wrong, court.dog(wrong), NONE);
        }
        said.due("none yet", said.court(PEOPLE).dog(0), NONE);
        said.due("an empty HILL", new ScentCourt().dog(0), NONE);
    }

    private void promiseUnlike() {
        said.says("Promise 30", "How unlike a CLOTH and a COAT are; NONE: no such ones.");
        ScentCourt court = said.cut(new int[] {5, 1}, new int[] {2, 7});
        said.due("not at all", court.unlike(0, 0), 0);
        said.due("less and more together", court.unlike(0, 1), 9);
        said.due("as the other way round", court.unlike(1, 0), 9);
        court.change(0, 1);
        said.due("the COAT of that number", court.unlike(0, 1), 9);
        court.soap(0);
        said.due("a clean COAT", court.unlike(0, 1), 6);
        for (int wrong : WRONG) {
            said.due("CLOTH " + wrong, court.unlike(wrong, 0), NONE);
            said.due("COAT " + wrong, court.unlike(0, wrong), NONE);
        }
        said.due("no CLOTH 2", court.unlike(2, 0), NONE);
        said.due("no COAT 2", court.unlike(0, 2), NONE);
        said.due("an empty HILL", new ScentCourt().unlike(0, 0), NONE);
        ScentCourt full = said.court("scent a 0;scent b 0;scent c 0;scent d 0;scent e 0;scent f 0;"
                + "place p a 9 b 9 c 9 d 9 e 9 f 9;witness w 1 p;");
        full.send(0, 0);
        full.on(11);
        said.due("the most", full.unlike(0, 0), 594);
    }

    private void promiseAlike() {
        said.says("Promise 31", "Two CLOTHS whose difference is least (10 times the lesser number and the greater; "
                + "of like ones the first); NONE: fewer than two.");
        ScentCourt court = said.court(Said.smells(new int[] {9, 0}, new int[] {7, 0}, new int[] {4, 0}, new int[] {2, 0},
                new int[] {0, 9}, new int[] {9, 9}));
        said.due("no CLOTHS", court.alike(), NONE);
        court.on(1);
        court.send(0, 0);
        said.due("one", court.alike(), NONE);
        court.send(5, 0);
        said.due("two", court.alike(), 1);
        court.send(3, 0);
        said.due("9 and 2 are less unlike", court.alike(), 2);
        court.send(2, 0);
        said.due("4 and 2", court.alike(), 23);
        court.send(1, 0);
        said.due("of like ones the first", court.alike(), 4);
        court.send(4, 0);
        said.due("of like ones the first", court.alike(), 4);
        court.soap(0);
        court.send(0, 0);
        said.due("clean and 2 are as unlike", court.alike(), 4);
        court.send(0, 1);
        said.due("two clean ones, the last of eight", court.alike(), 67);
        court = said.cut(new int[] {1, 0}, new int[] {1, 0}, new int[] {1, 0});
        said.due("of three like ones the first two", court.alike(), 1);
        said.due("an empty HILL", new ScentCourt().alike(), NONE);
    }

    private void promiseKitchen() {
        said.says("Promise 32", "The PLACE whose AIR would bring most to the COAT that a WITNESS wears, as it is now "
                + "(all SCENTS together, no SCENT above 99; of like ones the first); NONE: no such one, no PLACES.");
        ScentCourt court = said.court("scent s 0;scent t 0;place o;place p s 5;place z s 9;place y s 4 t 5;place q t 4;witness a 1 p;"
                + "witness b 1 o;");
        said.due("9, and 4 and 5: of like ones the first", court.kitchen(0), 2);
        court.on(18);
        said.due("90: still", court.kitchen(0), 2);
        court.on(1);
        said.due("95: 4 of the 9, but 4 and 5", court.kitchen(0), 3);
        said.due("another COAT", court.kitchen(1), 2);
        court.change(0, 1);
        said.due("the COAT that it wears", court.kitchen(1), 3);
        court.change(0, 1);
        said.due("where it is, is all one", court.goes(0, 4), true);
        said.due("95", court.kitchen(0), 3);
        for (int wrong : new int[] {-1, 2, 6, Said.FAR, Said.DEEP}) {
            said.due("WITNESS " + wrong, court.kitchen(wrong), NONE);
        }
        ScentCourt full = said.court("scent s 0;place p s 9;place q s 5;place r s 4;witness a 1 p;");
        full.on(10);
        said.due("90: 9", full.kitchen(0), 0);
        full.goes(0, 2);
        full.on(1);
        said.due("94: 5 and 5", full.kitchen(0), 0);
        full.on(1);
        said.due("98: 1, 1 and 1", full.kitchen(0), 0);
        full.on(1);
        said.due("99: nothing", full.kitchen(0), 0);
        ScentCourt upward = said.court("scent s 0;place r;place q s 5;place p s 9;witness a 1 p;");
        upward.on(11);
        said.due("99: nothing, the first", upward.kitchen(0), 0);
        said.due("no SCENTS", said.court("place p;place q;witness a 1 q;").kitchen(0), 0);
        ScentCourt second = said.court("scent s 0;scent t 0;place p t 9;place q s 3;witness a 1 p;");
        second.on(10);
        said.due("90 of the second SCENT: 9", second.kitchen(0), 0);
        second.on(1);
        said.due("99 of the second SCENT: nothing", second.kitchen(0), 1);
        said.due("no PLACES", new ScentCourt().kitchen(0), NONE);
    }

    private void promiseThread() {
        said.says("Promise 33", "The PLACE whose AIR is least unlike a CLOTH (differences of all SCENTS together; "
                + "of like ones the first); NONE: no such one, no PLACES.");
        ScentCourt court = said.court("scent s 0;scent t 0;place o s 9 t 9;place p s 4;place q s 2 t 2;place r s 2;"
                + "witness a 1 p;witness b 1 r;witness c 1 o;smoke t o r;");
        court.send(0, 0);
        court.on(1);
        court.send(0, 0);
        court.send(1, 1);
        court.send(2, 2);
        said.due("clean: 18, 4, 4 and 6: of like ones the first", court.thread(0), 1);
        said.due("its PLACE", court.thread(1), 1);
        said.due("with smoke", court.thread(2), 3);
        said.due("all SCENTS", court.thread(3), 0);
        court.soap(1);
        said.due("COATS are nothing to it", court.thread(2), 3);
        said.due("no CLOTH 4", court.thread(4), NONE);
        for (int wrong : WRONG) {
            said.due("CLOTH " + wrong, court.thread(wrong), NONE);
        }
        ScentCourt like = said.court("scent s 0;place p s 4;place q s 2;place r s 3;witness a 1 r;");
        like.on(1);
        like.send(0, 0);
        like.goes(0, 0);
        like.on(1);
        said.due("3: its own", like.thread(0), 2);
        like.soap(0);
        like.goes(0, 1);
        like.on(1);
        like.send(0, 1);
        said.due("2", like.thread(1), 1);
        said.due("no PLACES", new ScentCourt().thread(0), NONE);
        ScentCourt first = said.court("scent s 0;place p s 4;place q s 2;place r s 1;witness a 1 r;");
        first.on(3);
        first.send(0, 0);
        said.due("3: 4 and 2 are like", first.thread(0), 0);
    }

    private void promiseSource() {
        said.says("Promise 34", "The PLACE with most of a SCENT in its AIR (of like ones the first); NONE: none has some, no such one.");
        ScentCourt court = said.court("scent s 0;scent t 0;scent u 0;place o;place p s 1 t 5;place q s 2 t 9;place r s 2;"
                + "smoke t q p;");
        said.due("2: of like ones the first", court.source(0), 2);
        said.due("5 and 4 of smoke: of like ones the first", court.source(1), 1);
        said.due("none has some", court.source(2), NONE);
        for (int wrong : new int[] {-1, 3, 6, Said.FAR, Said.DEEP}) {
            said.due("SCENT " + wrong, court.source(wrong), NONE);
        }
        said.due("1 is some", said.court("scent s 0;place o;place p s 1;").source(0), 1);
        said.due("the last", said.court("scent s 0;place o;place p s 1;place q s 9;").source(0), 2);
        said.due("the first", said.court("scent s 0;place o s 2;place p s 1;place q s 2;").source(0), 0);
        said.due("half of 1 is none", said.court("scent s 0;scent t 0;place p s 1;place q;smoke t p q;").source(1), NONE);
        said.due("no PLACES", said.court("scent s 0;").source(0), NONE);
        said.due("an empty HILL", new ScentCourt().source(0), NONE);
    }

    private void promiseStrangers() {
        said.says("Promise 35", "The fewest CHANGES by which all wear their own COATS.");
        said.due("nobody", new ScentCourt().strangers(), 0);
        said.due("one", said.court("place p;witness a 1 p;").strangers(), 0);
        String six = "place p;witness a 1 p;witness b 1 p;witness c 1 p;witness d 1 p;witness e 1 p;witness f 1 p;";
        int[][][] changes = {{}, {{0, 1}}, {{0, 1}, {0, 1}}, {{4, 5}}, {{0, 1}, {1, 2}}, {{0, 1}, {2, 3}}, {{0, 5}, {1, 4}, {2, 3}},
            {{0, 1}, {1, 2}, {2, 3}, {3, 4}, {4, 5}}, {{0, 1}, {1, 2}, {3, 4}, {4, 5}}, {{0, 5}, {5, 3}, {3, 0}, {1, 2}}};
        int[] fewest = {0, 1, 0, 1, 2, 2, 3, 5, 4, 2};
        for (int i = 0; i < changes.length; i++) {
            ScentCourt court = said.court(six);
            for (int[] two : changes[i]) {
                court.change(two[0], two[1]);
            }
            said.due("row " + i, court.strangers(), fewest[i]);
        }
    }

    private void promiseWearer() {
        said.says("Promise 36", "Who wears a COAT; NONE: no such one.");
        ScentCourt court = said.court(PEOPLE + "witness c 1 p;");
        for (int w = 0; w < 3; w++) {
            said.due("its own", court.wearer(w), w);
        }
        court.change(0, 1);
        court.change(1, 2);
        int[] wearers = {2, 0, 1};
        for (int coat = 0; coat < 3; coat++) {
            said.due("COAT " + coat, court.wearer(coat), wearers[coat]);
        }
        for (int wrong : new int[] {-1, 3, 6, Said.FAR, Said.DEEP}) {
            said.due("COAT " + wrong, court.wearer(wrong), NONE);
        }
        said.due("an empty HILL", new ScentCourt().wearer(0), NONE);
    }

    private void promiseClean() {
        said.says("Promise 37", "How many HOURS from now on it takes till a CLOTH is clean, alone in its BOX (0: it is now); "
                + "NONE: no such one, it never is.");
        ScentCourt court = said.court("scent s 3;scent t 0;scent u 1;place p s 9;place q s 1 u 9;place r t 1;place o;place n s 7;"
                + "witness a 9 p;witness b 1 q;witness c 1 r;witness d 2 n;");
        court.send(0, 0);
        said.due("it is now", court.clean(0), 0);
        court.on(1);
        court.send(0, 0);
        court.send(1, 1);
        court.send(2, 2);
        court.send(3, 0);
        said.due("at 9, 18 and 27", court.clean(1), 26);
        said.due("of two SCENTS the longer", court.clean(2), 9);
        said.due("it never is", court.clean(3), NONE);
        said.due("at 2, 4 and 6: 7 by 3, the last is less", court.clean(4), 5);
        said.due("as if it were alone", court.clean(0), 0);
        for (int hour = 2; hour <= 10; hour++) {
            court.on(1);
            said.due("one HOUR less", court.clean(2), 10 - hour);
        }
        said.cloth(court, 2, 0, 0, 0);
        said.due("no CLOTH 5", court.clean(5), NONE);
        for (int wrong : WRONG) {
            said.due("CLOTH " + wrong, court.clean(wrong), NONE);
        }
        said.due("an empty HILL", new ScentCourt().clean(0), NONE);
        ScentCourt alone = said.court("scent s 3;scent t 0;place p s 9;place q s 6;witness a 9 p;witness b 4 q;");
        alone.on(1);
        alone.send(0, 0);
        alone.send(1, 1);
        alone.on(6);
        said.due("HOUR 7: at 9, 18, 27", alone.clean(0), 20);
        said.due("HOUR 7: at 8", alone.clean(1), 1);
        alone.on(1);
        said.due("HOUR 8: at 9, 18, 27", alone.clean(0), 19);
        said.due("HOUR 8: it is now", alone.clean(1), 0);
        alone.on(1);
        said.due("HOUR 9: at 18, 27", alone.clean(0), 18);
        alone.on(17);
        said.due("HOUR 26: at 27", alone.clean(0), 1);
        said.cloth(alone, 0, 3);
        alone.on(1);
        said.due("HOUR 27: it is now", alone.clean(0), 0);
        said.cloth(alone, 0, 0);
    }

    private void cleanFar() {
        said.says("Promise 37", "How many HOURS from now on it takes");
        ScentCourt court = said.court("scent s 1;place p s 9;place q;witness a 9 p;witness b 1 q;");
        court.on(12);
        court.send(0, 0);
        said.due("99 times, the first at 18", court.clean(0), 99 * 9 - 3);
        court.send(1, 0);
        court.on(1);
        said.cloth(court, 0, 99);
        said.cloth(court, 1, 1);
        said.due("less than the greatest, and as if alone", court.clean(1), 1);
        said.pass(court, 999 - 13);
        court.send(0, 1);
        said.due("beyond HOUR 999", court.clean(2), 99 * 9);
    }

    private void promiseDrawn() {
        said.says("Promise 39", "n (1 to 60) HOURS DRAWN by a seed: the HOUR then; "
                + "NONE: not as told, no WITNESSES, no PLACES, it would be above 999.");
        ScentCourt court = said.court(PEOPLE);
        said.due("1", court.drawn(1, 0), 1);
        said.due("60", court.drawn(60, 0), 61);
        for (int wrong : new int[] {0, -1, 61, 999, Said.FAR, Said.DEEP}) {
            said.due("n " + wrong, court.drawn(wrong, 0), NONE);
        }
        said.due("the HOUR stays", court.count(4), 61);
        said.due("two were done", court.undo(), 1);
        said.due("undone", court.count(4), 1);
        said.due("no WITNESSES", said.court("scent s 0;place p;").drawn(1, 1), NONE);
        said.due("no WITNESSES, no PLACES", said.court("scent s 0;").drawn(1, 1), NONE);
        said.due("one WITNESS, one PLACE, no SCENTS", said.court("place p;witness a 1 p;").drawn(1, 1), 1);
        said.due("an empty HILL", new ScentCourt().drawn(1, 1), NONE);
        said.pass(court, 939);
        said.due("940 and 60", court.drawn(60, 1), NONE);
        said.due("the HOUR stays", court.count(4), 940);
        said.due("940 and 59", court.drawn(59, 1), 999);
        said.due("999 and 1", court.drawn(1, 1), NONE);
    }

    private void promiseWeather() {
        said.says("Promise 40", "Of the latest drawn() that was not NONE: 0 rains that were drawn, 1 CHANGES, "
                + "2 how often somebody went (also to where it was). NONE: another what, or ahead of any.");
        ScentCourt court = said.court(CROWD);
        for (int what = 0; what < 3; what++) {
            said.due("ahead of any", court.weather(what), NONE);
        }
        court.drawn(61, 1);
        court.odds(0, 1, 1);
        court.on(1);
        said.due("NONE alone", court.weather(0), NONE);
        int[] weather = new int[3];
        ScentCourt byHand = said.court(CROWD);
        byHand.on(1);
        x = 9;
        for (int hour = 0; hour < 50; hour++) {
            drawHour(byHand, weather);
        }
        said.due("drawn", court.drawn(50, 9), 51);
        weather(court, weather);
        for (int wrong : new int[] {-1, 3, 4, Said.FAR, Said.DEEP}) {
            said.due("what " + wrong, court.weather(wrong), NONE);
        }
        court.drawn(0, 4);
        court.odds(1, 40, 3);
        court.on(1);
        court.undo();
        court.undo();
        Check.hill(court, "");
        court.drawn(1, 1);
        said.due("the latest stays", court.count(4), 0);
        weather(court, weather);
        Check.hill(court, CROWD + "rain 1;rain 2;rain 3;rain 4;rain 5;rain 6;");
        int[] again = new int[3];
        byHand = said.court(CROWD);
        x = -3;
        for (int hour = 0; hour < 6; hour++) {
            drawHour(byHand, again);
        }
        court.drawn(6, -3);
        weather(court, again);
        drawnIsAnew();
    }

    private void drawnIsAnew() {
        ScentCourt court = said.court("place p;witness a 1 p;");
        int quiet = NONE;
        for (int seed = 0; seed < 500 && quiet == NONE; seed++) {
            x = seed;
            quiet = draw(3) != 0 && draw(8) != 0 && draw(5) != 0 ? seed : NONE;
        }
        court.drawn(60, 8);
        said.due("much", court.weather(0) > 0 && court.weather(2) > 0, true);
        court.drawn(1, quiet);
        weather(court, 0, 0, 0);
    }

    private void promiseOdds() {
        said.says("Promise 41", "Of n (1 to 40) years by seeds x, x and 1, .. of 20 HOURS DRAWN from now on, "
                + "in how many WITNESS w wears its own COAT behind them; NONE: not as told, as drawn() is.");
        ScentCourt one = said.court("place p;witness a 1 p;");
        said.due("1 year", one.odds(0, 1, 1), 1);
        said.due("40 years", one.odds(0, 40, 1), 40);
        for (int wrong : new int[] {0, -1, 41, Said.FAR, Said.DEEP}) {
            said.due("years " + wrong, one.odds(0, wrong, 1), NONE);
        }
        for (int wrong : new int[] {-1, 1, 6, Said.FAR, Said.DEEP}) {
            said.due("WITNESS " + wrong, one.odds(wrong, 1, 1), NONE);
        }
        said.due("no WITNESSES", said.court("place p;").odds(0, 1, 1), NONE);
        said.due("an empty HILL", new ScentCourt().odds(0, 1, 1), NONE);
        said.pass(one, 979);
        said.due("979 and 20", one.odds(0, 3, 1), 3);
        one.on(1);
        said.due("980 and 20", one.odds(0, 3, 1), NONE);
        ScentCourt court = said.court(CROWD);
        court.on(3);
        court.change(0, 2);
        court.send(0, 0);
        String before = Said.all(court);
        said.due("no weather", court.weather(0), NONE);
        said.due("years", court.odds(0, 40, -20) >= 0, true);
        said.due("nothing is altered", Said.all(court), before);
        said.due("nothing was done", court.undo(), 2);
        said.due("still no weather", court.weather(0), NONE);
    }

    private void oddsBySeeds() {
        said.says("Promise 41", "Of n (1 to 40) years by seeds x, x and 1, ..");
        for (int seed : new int[] {0, -20, Said.FAR - 5, Said.DEEP}) {
            for (int w = 0; w < 3; w++) {
                ScentCourt court = said.court(CROWD);
                court.on(2);
                court.change(0, 1);
                int own = 0;
                for (int year = 0; year < 40; year++) {
                    court.drawn(20, seed + year);
                    own += court.witness(w, 1) == w ? 1 : 0;
                    court.undo();
                    if (year % 13 == 0 || year == 39) {
                        said.due("of " + (year + 1) + " years by " + seed, court.odds(w, year + 1, seed), own);
                    }
                }
            }
        }
    }

    private void promiseWrite() {
        said.says("Promise 42", "A COAT as a text: of each SCENT on it (more than 0) its NAME and how much, one blank (32) between, "
                + "; behind each: how many bytes; NONE: no such one.");
        ScentCourt court = said.court("scent a 0;scent zyxwvut 0;scent m 0;place p a 1;place q zyxwvut 9 a 9;place r zyxwvut 1;"
                + "witness n 1 p;witness o 1 q;witness k 1 r;");
        writes(court, 0, "");
        court.on(1);
        writes(court, 0, "a 1;");
        writes(court, 1, "a 9;zyxwvut 9;");
        court.on(8);
        writes(court, 0, "a 9;");
        court.on(1);
        writes(court, 0, "a 10;");
        writes(court, 1, "a 90;zyxwvut 90;");
        writes(court, 2, "zyxwvut 10;");
        court.on(1);
        writes(court, 0, "a 11;");
        court.change(0, 1);
        writes(court, 1, "a 99;zyxwvut 99;");
        for (int wrong : new int[] {-1, 3, 6, Said.FAR, Said.DEEP}) {
            said.due("COAT " + wrong, court.write(wrong), NONE);
        }
        said.due("an empty HILL", new ScentCourt().write(0), NONE);
        said.due("no SCENTS", said.court("place p;witness a 1 p;").write(0), 0);
        StringBuilder hill = new StringBuilder();
        StringBuilder place = new StringBuilder("place p");
        StringBuilder text = new StringBuilder();
        for (char letter = 'a'; letter <= 'f'; letter++) {
            String name = Check.repeat(String.valueOf(letter), 7);
            hill.append("scent ").append(name).append(" 0;");
            place.append(' ').append(name).append(" 9");
            text.append(name).append(" 99;");
        }
        ScentCourt full = said.court(hill.append(place).append(";witness w 1 p;").toString());
        full.on(11);
        writes(full, 0, text.toString());
    }

    private void writes(ScentCourt court, int coat, String text) {
        said.due("bytes of " + text, court.write(coat), text.length());
        said.due("the text", Said.written(court), text);
    }

    private void promiseByteAt() {
        said.says("Promise 43", "Byte i of the text made last; NONE: there is none such.");
        ScentCourt court = said.court(PEOPLE);
        said.due("none made", court.byteAt(0), NONE);
        court.on(60);
        court.write(0);
        String text = "s 99;t 99;";
        for (int i = 0; i < text.length(); i++) {
            said.due("byte " + i, court.byteAt(i), text.charAt(i));
        }
        for (int wrong : new int[] {-1, 10, 11, 65, 66, Said.FAR, Said.DEEP}) {
            said.due("byte " + wrong, court.byteAt(wrong), NONE);
        }
        said.due("no such COAT", court.write(2), NONE);
        court.soap(0);
        said.due("none was made then", court.byteAt(9), ';');
        said.due("a shorter one", court.write(0), 0);
        said.due("no byte of the longer one", court.byteAt(0), NONE);
    }

    private void promiseSaid() {
        said.says("Promise 45", "WITNESSES of whom it may be said: how many (k NONE), or the k-th. "
                + "NONE: there is no SENTENCE, none such.");
        ScentCourt court = said.court(PEOPLE + "witness c 1 p;witness d 1 q;witness e 1 p;witness f 1 p;");
        said.due("there is no SENTENCE", court.said(NONE), NONE);
        said.due("there is no SENTENCE", court.said(0), NONE);
        said.saidOf(court, "at p", 1, 0, 2, 4, 5);
        for (int wrong : new int[] {-2, -3, 4, 5, 6, Said.FAR, Said.DEEP}) {
            said.due("none such " + wrong, court.said(wrong), NONE);
        }
        said.saidOf(court, "own", 1, 0, 1, 2, 3, 4, 5);
        said.saidOf(court, "not own", 2);
        said.due("of none the first", court.said(0), NONE);
        Check.sentence(court, "at q");
        court.goes(5, 1);
        said.due("as it is now", court.said(2), 5);
        said.due("as it is now", court.said(NONE), 3);
        Check.hill(court, PEOPLE);
        said.due("there is no SENTENCE", court.said(NONE), NONE);
        said.due("an empty HILL", new ScentCourt().said(NONE), NONE);
        ScentCourt nobody = new ScentCourt();
        Check.sentence(nobody, "own");
        said.due("of nobody", nobody.said(NONE), 0);
        said.due("of nobody the first", nobody.said(0), NONE);
    }
}
