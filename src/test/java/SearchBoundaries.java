/** What the document says of CLOTHS that are opened, of WAS and CHANGED; promises 19 to 28. */
final class SearchBoundaries {
    private static final int NONE = ScentCourt.NONE;
    private static final String TERMS = "Terms";
    private static final String PLAIN = "scent s 0;scent t 0;place p s 1;place q t 1;place o;witness a 1 p;witness b 1 q;"
            + "witness c 1 o;";
    private static final String ALIKE = "scent s 0;place p s 1;witness a 1 p;witness b 1 p;";

    private final Said said;

    SearchBoundaries(Said said) {
        this.said = said;
    }

    void test() {
        opening();
        drowning();
        ordering();
        sharing();
        wasRows();
        wasHours();
        wasMost();
        changedWays();
        changedHours();
        promiseOrder();
        promiseOpened();
        promiseNoses();
        promiseDrowned();
        promiseRemains();
        promiseWas();
        promiseRows();
        promiseFirst();
        promiseChanged();
        promiseChangeAt();
    }

    /** Eight CLOTHS, all unlike: 2, 1, 18, 15, 12, 9, 6 and 3 of one SCENT. */
    private ScentCourt eight() {
        ScentCourt court = said.cut(new int[] {1, 0}, new int[] {2, 0}, new int[] {3, 0}, new int[] {4, 0}, new int[] {5, 0},
                new int[] {6, 0});
        for (int i = 0; i < 6; i++) {
            court.undo();
        }
        court.send(1, 0);
        court.send(0, 1);
        court.on(2);
        for (int w = 5; w >= 0; w--) {
            said.due("a CLOTH", court.send(w, 2), 7 - w);
        }
        return court;
    }

    private void row(ScentCourt court, int... cloths) {
        said.due("ORDER", court.order(), cloths.length);
        for (int i = 0; i < cloths.length; i++) {
            said.due("the CLOTH at " + i, court.opened(i), cloths[i]);
        }
        said.due("none behind", court.opened(cloths.length), NONE);
        Check.tape(court, Check.bytes(cloths));
        said.due("none of them is DROWNED", court.drowned(), cloths.length > 0 ? NONE : -2);
    }

    private void remains(ScentCourt court, int s, int t, int... row) {
        Said.drowned(court, row);
        said.due("s behind " + row.length, court.remains(0), s);
        said.due("t behind " + row.length, court.remains(1), t);
    }

    private void opening() {
        said.says(TERMS, "To OPEN CLOTHS one after another, as they are now: a NOSE has of each SCENT what REMAINS: "
                + "nothing at first, behind each CLOTH the greater of half (cut) of that and what the CLOTH has.");
        ScentCourt court = said.cut(new int[] {9, 0}, new int[] {0, 1}, new int[] {0, 2}, new int[] {0, 3}, new int[] {0, 5},
                new int[] {5, 0});
        remains(court, 9, 0, 0);
        remains(court, 4, 1, 0, 1);
        remains(court, 2, 2, 0, 1, 2);
        remains(court, 1, 3, 0, 1, 2, 3);
        remains(court, 0, 5, 0, 1, 2, 3, 4);
        remains(court, 5, 0, 0, 5);
        remains(court, 0, 2, 4, 1);
        remains(court, 0, 2, 4, 2);
        remains(court, 0, 3, 4, 3);
        remains(court, 0, 1, 1);
        ScentCourt now = said.cut(new int[] {9, 0}, new int[] {0, 3});
        remains(now, 4, 3, 0, 1);
        now.on(1);
        remains(now, 9, 1, 0);
        remains(now, 4, 3, 0, 1);
        now.on(5);
        remains(now, 6, 3, 1);
    }

    private void drowning() {
        said.says(TERMS, "A CLOTH is DROWNED, if of its strongest SCENT (of like ones the first) as much REMAINS, or more, as it has "
                + "(also a clean one, always).");
        ScentCourt court = said.cut(new int[] {5, 0}, new int[] {5, 0}, new int[] {6, 0}, new int[] {4, 0}, new int[] {0, 9},
                new int[] {0, 0});
        said.due("as much", Said.drowned(court, 0, 1), 1);
        said.due("more", Said.drowned(court, 2, 0), 1);
        said.due("one less", Said.drowned(court, 3, 0), NONE);
        said.due("one less", Said.drowned(court, 0, 2), NONE);
        said.due("another SCENT", Said.drowned(court, 2, 4), NONE);
        said.due("halved between", Said.drowned(court, 2, 4, 0), NONE);
        said.due("a clean one first", Said.drowned(court, 5), 0);
        said.due("a clean one behind another", Said.drowned(court, 4, 5), 1);
        court = said.cut(new int[] {1, 5}, new int[] {4, 4}, new int[] {3, 5}, new int[] {4, 0}, new int[] {2, 9});
        said.due("of like ones the first, by which it is not DROWNED", Said.drowned(court, 0, 1), NONE);
        said.due("one less of the first", Said.drowned(court, 2, 1), NONE);
        said.due("as much of the first", Said.drowned(court, 3, 1), 1);
        said.due("of a weaker SCENT more REMAINS", Said.drowned(court, 3, 4), NONE);
        said.due("the first of two", Said.drowned(court, 3, 1, 0, 2), 1);
    }

    private void ordering() {
        said.says(TERMS, "ORDER: all CLOTHS by one NOSE, none DROWNED: the first such row.");
        row(said.cut(new int[] {3, 0}, new int[] {0, 3}), 0, 1);
        row(said.cut(new int[] {3, 0}, new int[] {4, 0}), 0, 1);
        row(said.cut(new int[] {4, 0}, new int[] {3, 0}), 1, 0);
        row(said.cut(new int[] {8, 0}, new int[] {5, 0}, new int[] {0, 2}), 0, 2, 1);
        row(said.cut(new int[] {9, 0}, new int[] {0, 2}, new int[] {5, 0}, new int[] {0, 1}), 0, 3, 1, 2);
        said.due("halved to as much", said.cut(new int[] {8, 0}, new int[] {4, 0}, new int[] {0, 2}).order(), 3);
        row(said.cut(new int[] {8, 0}, new int[] {4, 0}, new int[] {0, 2}), 1, 0, 2);
        row(eight(), 1, 0, 7, 6, 5, 4, 3, 2);
        row(said.cut(new int[] {1, 5}, new int[] {1, 2}), 1, 0);
    }

    private void sharing() {
        said.says(TERMS, "NOSES: the fewest among whom CLOTHS can be shared so that none is DROWNED.");
        said.due("one NOSE for all", eight().noses(), 1);
        said.due("each its own", said.cut(new int[] {2, 0}, new int[] {2, 0}).noses(), 2);
        int[][] pairs = {{3, 3}, {3, 3}, {4, 4}, {4, 4}, {5, 5}, {5, 5}};
        said.due("two share six", said.cut(pairs).noses(), 2);
        int[][] threes = {{3, 3}, {4, 4}, {3, 3}, {4, 4}, {3, 3}, {5, 5}};
        said.due("three share six", said.cut(threes).noses(), 3);
        said.due("one between lets both", said.cut(new int[] {6, 0}, new int[] {6, 0}, new int[] {0, 3}).noses(), 1);
        said.due("but not a third", said.cut(new int[] {6, 0}, new int[] {6, 0}, new int[] {6, 0}, new int[] {0, 3}).noses(), 2);
        ScentCourt later = said.cut(new int[] {3, 0}, new int[] {5, 0});
        said.due("unlike", later.noses(), 1);
        later.on(2);
        said.due("grown alike", later.noses(), 2);
        said.due("grown alike", later.order(), NONE);
        said.due("in no matter what order", said.cut(new int[] {9, 0}, new int[] {0, 2}, new int[] {5, 0}).noses(), 1);
    }

    private void wasRows() {
        said.says(TERMS, "WAS: a WITNESS in its own COAT, clean at HOUR 0, 1 to 6 HOURS (1, 2, ..), no rain: "
                + "all rows of PLACES (one for each HOUR) by which the COAT is in the end as told.");
        String hill = "scent s 1;place p s 2;place o;witness a 2 p;witness b 9 o;";
        ScentCourt court = said.court(hill + "rain 1;rain 2;went a 1 o;");
        for (int time = 0; time < 2; time++) {
            said.due("it fades at HOUR 2", Said.was(court, 0, 2, 3), 1);
            said.due("0 at least", Said.was(court, 0, 2, 2), 1);
            said.due("at HOUR 2 there", court.rows(2, 0), 1);
            said.due("one less behind", Said.was(court, 0, 2, 1), 1);
            said.due("at HOUR 1 there", court.rows(1, 0), 1);
            said.due("b's doesn't fade", Said.was(court, 1, 2, 3), 0);
            said.due("twice there", Said.was(court, 1, 2, 4), 1);
            said.due("once there", Said.was(court, 1, 2, 2), 2);
            court.on(7);
            court.change(0, 1);
        }
        ScentCourt all = said.court("place a;place b;place c;place d;place e;place f;witness w 1 a;");
        said.due("all rows of six PLACES and HOURS", Said.was(all, 0, 6), 46656);
        said.due("a sixth of them", all.rows(1, 0), 7776);
        said.due("a sixth of them", all.rows(6, 5), 7776);
        said.due("one HOUR", Said.was(all, 0, 1), 6);
        said.due("one of them", all.rows(1, 5), 1);
    }

    private void wasHours() {
        said.says(TERMS, "1 to 6 HOURS (1, 2, ..)");
        ScentCourt court = said.court("scent s 1;place p s 1;witness a 6 p;witness b 7 p;witness c 5 p;witness d 1 p;");
        said.due("KEEP 6, five HOURS", Said.was(court, 0, 5, 5), 1);
        said.due("KEEP 6, six HOURS", Said.was(court, 0, 6, 5), 1);
        said.due("KEEP 7", Said.was(court, 1, 6, 6), 1);
        said.due("KEEP 5", Said.was(court, 2, 5, 4), 1);
        said.due("KEEP 1, 1", Said.was(court, 3, 1, 1), 1);
        said.due("KEEP 1, 6", Said.was(court, 3, 6, 1), 1);
        said.due("no row", Said.was(court, 3, 6, 2), 0);
    }

    private void wasMost() {
        said.says(TERMS, "by which the COAT is in the end as told.");
        ScentCourt court = said.court("scent s 0;place p s 9;place q s 9;place r s 9;place t s 9;smoke s q p;smoke s r p;"
                + "smoke s t p;witness a 1 p;");
        said.due("99 at most: 105", Said.was(court, 0, 5, 99), 1);
        said.due("99 at most: 126, 114, 102", Said.was(court, 0, 6, 99), 1 + 6 * 3 + 15 * 9);
        said.due("90", Said.was(court, 0, 6, 90), 20 * 27);
        said.due("more than there can be", Said.was(court, 0, 6, 100), 0);
        said.due("more than there can be", Said.was(court, 0, 6, 255), 0);
        said.due("one less", Said.was(court, 0, 5, 98), 0);
        ScentCourt fading = said.court("scent s 9;scent t 0;place p s 9 t 1;place o t 1;witness a 3 p;");
        said.due("both SCENTS are as told", Said.was(fading, 0, 3, 9, 3), 4);
        said.due("twice at HOUR 1", fading.rows(1, 0), 2);
        said.due("three times at HOUR 3", fading.rows(3, 0), 3);
        said.due("one is not", Said.was(fading, 0, 3, 9, 2), 0);
        said.due("gone", Said.was(fading, 0, 3, 0, 3), 3);
        ScentCourt last = said.court("scent s 5;place l;place m;place n;place o;place p;place q s 9;witness a 1 l;");
        said.due("more than is told in the end", Said.was(last, 0, 2, 4), 5);
        said.due("at first at the last PLACE", last.rows(1, 5), 5);
        said.due("always at the last PLACE", Said.was(last, 0, 4, 21), 1);
        said.due("HOUR 4", last.rows(4, 5), 1);
    }

    private void changedWays() {
        said.says(TERMS, "CHANGED: from the HILL as told on to this HOUR (acts count nothing) with one CHANGE of two "
                + "ahead of an HOUR (1 or later): by which the COATS are as told.");
        ScentCourt court = said.court(PLAIN);
        said.due("HOUR 0: ahead of none", Said.changed(court, 0, 0, 0, 0, 0, 0), 0);
        court.on(1);
        said.due("ahead of HOUR 1", Said.changed(court, 0, 1, 1, 0, 0, 0), 1);
        said.due("the way", court.changeAt(0), 1001);
        said.due("nobody did", Said.changed(court, 1, 0, 0, 1, 0, 0), 0);
        court.on(2);
        court.goes(0, 2);
        court.change(0, 2);
        court.soap(1);
        court.send(0, 0);
        for (int time = 0; time < 2; time++) {
            said.due("ahead of HOUR 1", Said.changed(court, 0, 3, 3, 0, 0, 0), 1);
            said.due("the way", court.changeAt(0), 1001);
            said.due("ahead of HOUR 2", Said.changed(court, 3, 0, 0, 1, 0, 2), 1);
            said.due("the way", court.changeAt(0), 12002);
            said.due("ahead of HOUR 3", Said.changed(court, 2, 0, 0, 3, 1, 0), 1);
            said.due("the way", court.changeAt(0), 2003);
            said.due("not ahead of HOUR 4", Said.changed(court, 3, 0, 0, 3, 0, 0), 0);
            court.undo();
            court.drawn(1, 7);
            court.undo();
        }
        ScentCourt two = said.court(PLAIN);
        two.on(2);
        said.due("no CHANGE of three", Said.changed(two, 0, 2, 0, 0, 2, 0), 0);
        said.due("the third is not as told", Said.changed(two, 0, 2, 2, 0, 0, 1), 0);
        said.due("one of two is not as told", Said.changed(two, 0, 2, 1, 0, 0, 0), 0);
        said.due("the other is not as told", Said.changed(two, 1, 0, 2, 0, 0, 0), 0);
        said.due("b and c", Said.changed(two, 2, 0, 0, 0, 0, 2), 1);
        said.due("b and c, but not a", Said.changed(two, 1, 0, 0, 0, 0, 2), 0);
        said.due("b and c, but not a", Said.changed(two, 2, 1, 0, 0, 0, 2), 0);
        said.due("a HILL of one SCENT", Check.hill(two, "scent s 0;place p s 1;place o;witness a 1 p;witness b 1 o;"), 5);
        two.on(1);
        said.due("a and b", Said.changed(two, 0, 1), 1);
    }

    private void changedHours() {
        said.says(TERMS, "from the HILL as told on to this HOUR");
        ScentCourt court = said.court("scent s 1;place p s 5;place o;witness a 2 p;witness b 3 o;went b 3 p;rain 2;");
        court.on(3);
        said.due("rain, 'went', KEEP of each COAT: ahead of HOUR 1", Said.changed(court, 5, 12), 1);
        said.due("the way", court.changeAt(0), 1001);
        said.due("ahead of HOUR 2", Said.changed(court, 7, 9), 1);
        said.due("the way", court.changeAt(0), 1002);
        said.due("ahead of HOUR 3", Said.changed(court, 12, 5), 1);
        said.due("the way", court.changeAt(0), 1003);
        court.on(1);
        said.due("ahead of HOUR 2", Said.changed(court, 11, 14), 1);
        said.due("the way", court.changeAt(0), 1002);
        said.due("ahead of HOUR 3 and of HOUR 4", Said.changed(court, 16, 10), 2);
        said.due("the second way", court.changeAt(1), 1004);
        said.due("no more as an HOUR ago", Said.changed(court, 7, 9), 0);
        ScentCourt full = said.court("scent s 0;place p s 9;place o;witness a 1 p;witness b 1 o;");
        full.on(12);
        said.due("99 at most: ahead of HOUR 12 alone", Said.changed(full, 99, 9), 1);
        said.due("the way", full.changeAt(0), 1012);
        said.due("99 at most", Said.changed(full, 9, 99), 1);
        said.due("the way", full.changeAt(0), 1002);
    }

    private void promiseOrder() {
        said.says("Promise 19", "ORDER: how many CLOTHS (0: there are none); NONE: there is no such row.");
        said.due("an empty HILL", new ScentCourt().order(), 0);
        said.due("there are none", said.court(PLAIN).order(), 0);
        said.due("one", said.cut(new int[] {1, 0}).order(), 1);
        said.due("a clean one", said.cut(new int[] {0, 0}).order(), NONE);
        said.due("two like ones", said.cut(new int[] {9, 0}, new int[] {9, 0}).order(), NONE);
        said.due("a clean one among others", said.cut(new int[] {3, 0}, new int[] {0, 0}, new int[] {4, 0}).order(), NONE);
        said.due("eight", eight().order(), 8);
        ScentCourt court = said.cut(new int[] {2, 0});
        for (int c = 1; c < 8; c++) {
            court.send(0, c % 3);
        }
        String before = Said.all(court);
        said.due("eight like ones", court.order(), NONE);
        said.due("nothing is altered", Said.all(court), before);
    }

    private void promiseOpened() {
        said.says("Promise 20", "The i-th CLOTH of the latest order() that was not NONE; NONE: none such, or ahead of any.");
        ScentCourt court = said.cut(new int[] {5, 0}, new int[] {3, 0});
        said.due("ahead of any", court.opened(0), NONE);
        court.order();
        said.due("the first", court.opened(0), 1);
        said.due("the last", court.opened(1), 0);
        for (int wrong : new int[] {-1, 2, 7, 8, Said.FAR, Said.DEEP}) {
            said.due("CLOTH " + wrong, court.opened(wrong), NONE);
        }
        court.send(0, 1);
        said.due("none", court.order(), NONE);
        said.due("the first of the latest that was not NONE", court.opened(0), 1);
        said.due("the last of it", court.opened(1), 0);
        said.due("no third", court.opened(2), NONE);
        court.noses();
        Said.drowned(court, 0);
        said.due("other calls open none", court.opened(0), 1);
        Check.hill(court, PLAIN);
        said.due("another HILL", court.opened(1), 0);
        said.due("no CLOTHS", court.order(), 0);
        said.due("0 is not NONE", court.opened(0), NONE);
        ScentCourt eight = eight();
        eight.order();
        said.due("the eighth", eight.opened(7), 2);
        said.due("no ninth", eight.opened(8), NONE);
    }

    private void promiseNoses() {
        said.says("Promise 21", "NOSES (0: there are no CLOTHS); NONE: not by any (a clean CLOTH).");
        said.due("an empty HILL", new ScentCourt().noses(), 0);
        ScentCourt court = said.court("scent s 0;place p s 3;witness a 1 p;");
        said.due("no CLOTHS", court.noses(), 0);
        court.on(1);
        for (int noses = 1; noses <= 8; noses++) {
            court.send(0, noses % 3);
            said.due("each its own", court.noses(), noses);
        }
        court.undo();
        court.soap(0);
        court.send(0, 0);
        said.due("a clean CLOTH, the last", court.noses(), NONE);
        said.due("a clean CLOTH alone", said.cut(new int[] {0, 0}).noses(), NONE);
        said.due("a clean CLOTH, the first", said.cut(new int[] {0, 0}, new int[] {1, 0}).noses(), NONE);
    }

    private void promiseDrowned() {
        said.says("Promise 22", "A row of CLOTHS by the tape (a byte each, unlike, 1 to 8) opened by one NOSE: "
                + "the place of the first that is DROWNED; NONE: none is; -2: not as told.");
        ScentCourt court = eight();
        said.due("one", Said.drowned(court, 7), NONE);
        said.due("eight", Said.drowned(court, 1, 0, 7, 6, 5, 4, 3, 2), NONE);
        said.due("the eighth is", Said.drowned(court, 1, 0, 7, 6, 5, 4, 2, 3), 7);
        said.due("the second is", Said.drowned(court, 2, 3, 4, 5, 6, 7, 0, 1), 1);
        said.due("the third and others", Said.drowned(court, 1, 7, 0, 5, 6, 4), 2);
        said.due("none", Said.drowned(court), -2);
        said.due("nine", Said.drowned(court, 1, 0, 7, 6, 5, 4, 3, 2, 2), -2);
        said.due("nine, a stranger among them", Said.drowned(court, 1, 0, 7, 6, 5, 4, 3, 2, 8), -2);
        said.due("no such CLOTH", Said.drowned(court, 8), -2);
        said.due("no such CLOTH", Said.drowned(court, 255), -2);
        said.due("no such CLOTH behind", Said.drowned(court, 1, 128), -2);
        said.due("twice", Said.drowned(court, 1, 1), -2);
        said.due("twice, far from each other", Said.drowned(court, 0, 1, 2, 3, 4, 5, 6, 0), -2);
        court = said.court(PLAIN);
        said.due("no CLOTHS", Said.drowned(court, 0), -2);
        said.due("no CLOTHS, none told", Said.drowned(court), -2);
        court.send(0, 0);
        said.due("a clean one", Said.drowned(court, 0), 0);
        said.due("the second is not there", Said.drowned(court, 1), -2);
    }

    private void promiseRemains() {
        said.says("Promise 23", "What REMAINS of a SCENT behind the latest drowned() that was not -2 (all of its row being opened); "
                + "NONE: no such one on the HILL there is now, or ahead of any.");
        ScentCourt court = said.cut(new int[] {8, 1}, new int[] {5, 0}, new int[] {0, 6}, new int[] {0, 0});
        said.due("ahead of any", court.remains(0), NONE);
        Said.drowned(court);
        Said.drowned(court, 4);
        said.due("-2 alone", court.remains(0), NONE);
        said.due("DROWNED at 1", Said.drowned(court, 0, 1, 2), 1);
        said.due("all is opened: s", court.remains(0), 2);
        said.due("all is opened: t", court.remains(1), 6);
        said.due("a clean one at 1", Said.drowned(court, 0, 3, 2), 1);
        said.due("halved by it, too", court.remains(0), 2);
        Said.drowned(court, 1, 1);
        said.due("of the latest that was not -2", court.remains(0), 2);
        for (int wrong : new int[] {-1, 2, 6, Said.FAR, Said.DEEP}) {
            said.due("SCENT " + wrong, court.remains(wrong), NONE);
        }
        court.soap(0);
        court.on(1);
        said.due("as it was then", court.remains(1), 6);
        Check.hill(court, "scent x 1;scent y 1;scent z 1;");
        said.due("another HILL", court.remains(1), 6);
        said.due("a SCENT that there was not", court.remains(2), 0);
        said.due("no fourth", court.remains(3), NONE);
        Check.hill(court, "scent x 1;");
        said.due("no second now", court.remains(1), NONE);
        said.due("the first", court.remains(0), 2);
        Check.hill(court, "");
        said.due("no SCENTS now", court.remains(0), NONE);
    }

    private void promiseWas() {
        said.says("Promise 24", "WAS of WITNESS w for n (1 to 6) HOURS by the tape (a byte for each SCENT): how many rows; "
                + "NONE: not as told.");
        ScentCourt court = said.court(PLAIN);
        said.due("1 HOUR", Said.was(court, 0, 1, 1, 0), 1);
        said.due("1 HOUR, nothing", Said.was(court, 2, 1, 0, 0), 1);
        said.due("6 HOURS", Said.was(court, 1, 6, 3, 2), 60);
        said.due("6 HOURS in one way", Said.was(court, 2, 6, 6, 0), 1);
        said.due("no way", Said.was(court, 2, 6, 7, 0), 0);
        for (int wrong : new int[] {0, -1, 7, Said.FAR, Said.DEEP}) {
            said.due("HOURS " + wrong, Said.was(court, 0, wrong, 1, 0), NONE);
        }
        for (int wrong : new int[] {-1, 3, 6, Said.FAR, Said.DEEP}) {
            said.due("WITNESS " + wrong, Said.was(court, wrong, 1, 1, 0), NONE);
        }
        said.due("no byte", Said.was(court, 0, 1), NONE);
        said.due("a byte too few", Said.was(court, 0, 1, 1), NONE);
        said.due("a byte too many", Said.was(court, 0, 1, 1, 0, 0), NONE);
        ScentCourt six = said.court("scent a 0;scent b 0;scent c 0;scent d 0;scent e 0;scent f 0;place p a 1 f 2;witness w 1 p;");
        said.due("six bytes", Said.was(six, 0, 2, 2, 0, 0, 0, 0, 4), 1);
        said.due("five bytes", Said.was(six, 0, 2, 2, 0, 0, 0, 4), NONE);
        said.due("no SCENTS, no bytes", Said.was(said.court("place p;witness a 1 p;"), 0, 6), 1);
        said.due("no SCENTS, a byte", Said.was(said.court("place p;witness a 1 p;"), 0, 6, 0), NONE);
        said.due("an empty HILL", Said.was(new ScentCourt(), 0, 1), NONE);
    }

    private void promiseRows() {
        said.says("Promise 25", "Of the latest was() that was not NONE: in how many rows it is at a PLACE at an HOUR; "
                + "NONE: no such HOUR, no such PLACE of the HILL there was then, or ahead of any.");
        ScentCourt court = said.court(PLAIN);
        said.due("ahead of any", court.rows(1, 0), NONE);
        Said.was(court, 0, 7, 1, 1);
        said.due("NONE alone", court.rows(1, 0), NONE);
        said.due("six rows", Said.was(court, 0, 3, 1, 1), 6);
        for (int hour = 1; hour <= 3; hour++) {
            for (int p = 0; p < 3; p++) {
                said.due("HOUR " + hour + ", PLACE " + p, court.rows(hour, p), 2);
            }
        }
        for (int wrong : new int[] {0, -1, 4, 6, 7, Said.FAR, Said.DEEP}) {
            said.due("HOUR " + wrong, court.rows(wrong, 0), NONE);
        }
        for (int wrong : new int[] {-1, 3, 5, 6, Said.FAR, Said.DEEP}) {
            said.due("PLACE " + wrong, court.rows(1, wrong), NONE);
        }
        Said.was(court, 0, 3, 1);
        said.due("the latest that was not NONE", court.rows(3, 2), 2);
        Check.hill(court, "place x;place y;place z;place v;");
        said.due("a PLACE of the HILL there was then", court.rows(3, 2), 2);
        said.due("none of the HILL there was then", court.rows(3, 3), NONE);
        Check.hill(court, "scent s 0;place x;witness a 1 x;");
        said.due("the last of three HOURS", court.rows(3, 1), 2);
        said.due("no row", Said.was(court, 0, 2, 1), 0);
        said.due("0 is not NONE", court.rows(2, 0), 0);
        said.due("no third HOUR now", court.rows(3, 0), NONE);
        said.due("no second PLACE now", court.rows(1, 1), NONE);
        said.due("one row of six HOURS", Said.was(court, 0, 6, 0), 1);
        said.due("HOUR 6", court.rows(6, 0), 1);
        said.due("HOUR 7", court.rows(7, 0), NONE);
    }

    private void promiseFirst() {
        said.says("Promise 26", "The PLACE at an HOUR in the first row of the latest was() that was 1 or more; "
                + "NONE: no such one, or ahead of any.");
        ScentCourt court = said.court(PLAIN);
        said.due("ahead of any", court.first(1), NONE);
        Said.was(court, 0, 2, 9, 9);
        said.due("0 alone", court.first(1), NONE);
        Said.was(court, 0, 9, 1, 1);
        said.due("NONE alone", court.first(1), NONE);
        said.due("rows", Said.was(court, 0, 4, 0, 2), 6);
        int[] row = {1, 1, 2, 2};
        for (int hour = 1; hour <= 4; hour++) {
            said.due("HOUR " + hour, court.first(hour), row[hour - 1]);
        }
        for (int wrong : new int[] {0, -1, 5, 6, 7, Said.FAR, Said.DEEP}) {
            said.due("HOUR " + wrong, court.first(wrong), NONE);
        }
        Said.was(court, 0, 6, 9, 9);
        said.due("0 leaves it", court.first(4), 2);
        said.due("with its HOURS", court.first(5), NONE);
        Said.was(court, 0, 7, 1, 1);
        said.due("NONE leaves it", court.first(1), 1);
        Check.hill(court, "");
        said.due("another HILL leaves it", court.first(3), 2);
        Check.hill(court, PLAIN);
        said.due("1", Said.was(court, 0, 1, 0, 1), 1);
        said.due("HOUR 1", court.first(1), 1);
        said.due("no HOUR 2 now", court.first(2), NONE);
        said.due("six HOURS", Said.was(court, 0, 6, 0, 0), 1);
        said.due("HOUR 6", court.first(6), 2);
        said.due("HOUR 7", court.first(7), NONE);
    }

    private void promiseChanged() {
        said.says("Promise 27", "CHANGED by the tape (WITNESS by WITNESS a byte for each SCENT): in how many ways; "
                + "NONE: not as told, HOUR above 60.");
        ScentCourt court = said.court(PLAIN);
        court.on(1);
        said.due("WITNESS by WITNESS", Said.changed(court, 0, 0, 0, 1, 1, 0), 1);
        said.due("a and c", court.changeAt(0), 2001);
        said.due("no byte", Said.changed(court), NONE);
        said.due("a byte too few", Said.changed(court, 0, 0, 0, 1, 1), NONE);
        said.due("a byte too many", Said.changed(court, 0, 0, 0, 1, 1, 0, 0), NONE);
        said.due("more than there can be", Said.changed(court, 255, 0, 0, 1, 1, 0), 0);
        ScentCourt alike = said.court(ALIKE);
        for (int hour = 1; hour <= 60; hour++) {
            alike.on(1);
            said.due("a way ahead of each HOUR", Said.changed(alike, hour, hour), hour);
        }
        alike.on(1);
        said.due("HOUR 61", Said.changed(alike, 61, 61), NONE);
        ScentCourt last = said.court("scent s 0;place o;place p s 1;witness a 1 p;witness b 1 o;went b 60 p;went a 60 o;");
        last.on(60);
        said.due("ahead of HOUR 60", Said.changed(last, 60, 0), 1);
        said.due("the way", last.changeAt(0), 1060);
        said.due("ahead of HOUR 59", Said.changed(last, 59, 1), 1);
        said.due("the way", last.changeAt(0), 1059);
        alike.undo();
        said.due("HOUR 60 again", Said.changed(alike, 60, 60), 60);
        ScentCourt alone = said.court("scent s 0;place p;witness a 1 p;");
        alone.on(2);
        said.due("one WITNESS alone", Said.changed(alone, 0), 0);
        said.due("no WITNESSES", Said.changed(said.court("scent s 0;")), 0);
        said.due("no WITNESSES, a byte", Said.changed(said.court("scent s 0;"), 0), NONE);
        ScentCourt bare = said.court("place p;witness a 1 p;witness b 1 p;");
        bare.on(2);
        said.due("no SCENTS: each CHANGE", Said.changed(bare), 2);
        said.due("no SCENTS, a byte", Said.changed(bare, 0), NONE);
    }

    private void promiseChangeAt() {
        said.says("Promise 28", "The k-th way (by the first WITNESS, the second, the HOUR) of the latest changed() that was not NONE, "
                + "as 10000 times the first, 1000 times the second, and the HOUR; NONE: there is none such, behind the 40th, "
                + "or ahead of any.");
        ScentCourt court = said.court(ALIKE + "witness c 1 p;witness d 1 p;witness e 1 p;witness f 1 p;");
        said.due("ahead of any", court.changeAt(0), NONE);
        Said.changed(court, 0);
        said.due("NONE alone", court.changeAt(0), NONE);
        court.on(2);
        said.due("ways", Said.changed(court, 2, 2, 2, 2, 2, 2), 30);
        int k = 0;
        for (int a = 0; a < 6; a++) {
            for (int b = a + 1; b < 6; b++) {
                for (int hour = 1; hour <= 2; hour++) {
                    said.due("way " + k, court.changeAt(k), 10000 * a + 1000 * b + hour);
                    k++;
                }
            }
        }
        for (int wrong : new int[] {-1, 30, 31, 39, 40, Said.FAR, Said.DEEP}) {
            said.due("way " + wrong, court.changeAt(wrong), NONE);
        }
        Said.changed(court, 2);
        said.due("the latest that was not NONE", court.changeAt(29), 45002);
        court.on(1);
        said.due("45 ways", Said.changed(court, 3, 3, 3, 3, 3, 3), 45);
        said.due("the 40th", court.changeAt(39), 35001);
        said.due("the 41st", court.changeAt(40), NONE);
        said.due("the 45th", court.changeAt(44), NONE);
        court.on(57);
        said.due("900 ways", Said.changed(court, 60, 60, 60, 60, 60, 60), 900);
        said.due("the 40th", court.changeAt(39), 1040);
        said.due("the 41st", court.changeAt(40), NONE);
        said.due("the 900th", court.changeAt(899), NONE);
        court.on(1);
        Said.changed(court, 61, 61, 61, 61, 61, 61);
        said.due("NONE leaves it", court.changeAt(0), 1001);
        Check.hill(court, "");
        said.due("another HILL leaves it", court.changeAt(1), 1002);
        said.due("no ways", court.changed(), 0);
        said.due("0 is not NONE", court.changeAt(0), NONE);
        fortyAndMore();
    }

    private void fortyAndMore() {
        ScentCourt court = said.court(ALIKE);
        court.on(40);
        said.due("40 ways", Said.changed(court, 40, 40), 40);
        said.due("the 40th", court.changeAt(39), 1040);
        said.due("no 41st", court.changeAt(40), NONE);
        court.on(1);
        said.due("41 ways", Said.changed(court, 41, 41), 41);
        said.due("the 40th", court.changeAt(39), 1040);
        said.due("behind the 40th", court.changeAt(40), NONE);
    }
}
