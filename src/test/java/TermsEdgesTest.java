/** The edges that the document's Terms name, but those of texts: each sentence by a test of its own. */
public final class TermsEdgesTest {
    private static final Check CHECK = new Check("terms' edges");
    /** A ring of five, rich; 0 a whisper of 0, 1 an echo of 0, 2 a notice of 0. */
    private static final String RING = "c10,1;z50,0;z50,0;z50,0;z50,0;z50,0;w0,3,0;e0,4,1;n0,5,2;";
    private static final String[] PEOPLE = {"", "z50,0;", "z50,0;z50,0;", "z50,0;z50,0;z50,0;",
        "z50,0;z50,0;z50,0;z50,0;", "z50,0;z50,0;z50,0;z50,0;z50,0;"};

    public static void main(String[] args) {
        fromNought();
        dividing();
        rows();
        words();
        saying();
        canBeSaid();
        ring();
        comingOn();
        understanding();
        week();
        acts();
        bankedAndLeft();
        ahead();
        when();
        most();
        order();
        clear();
        passedOn();
        deaf();
        share();
        thrift();
        who();
        priced();
        heard();
        terms();
        kindsAndAsks();
        sixSpeeches();
        fewerThanBefore();
        CHECK.end();
    }

    private static void fromNought() {
        CHECK.of("Numbers go from 0 on");
        CrierWeeks x = CHECK.told("c9,1;z7,0;n0,3,0;");
        CHECK.row(x, 0, 0, 4);
        x.ask(0, 0);
        int[] first = {x.person(0, 0), x.speech(0, 1), x.priced(0, 0, 0, 0, 1), x.trace(0), x.order(0), x.as(0, 0), x.image(0)};
        int[] due = {7, 3, 16, 11, 0, 0, 1};
        int[] below = {x.person(-1, 0), x.speech(-1, 1), x.priced(-1, 0, 0, 0, 1), x.trace(-1), x.order(-2), x.as(-1, 0), x.image(-1)};
        for (int k = 0; k < due.length; k++) {
            CHECK.due("number 0, " + k, first[k], due[k]);
            CHECK.due("below it, " + k, below[k], k == 3 ? Check.NONE : Check.BAD);
        }
        CHECK.due("PEOPLE: no number 1", x.person(1, 0), Check.BAD);
        CHECK.due("SPEECHES: no number 1", x.speech(1, 0), Check.BAD);
        CHECK.due("ITEMS: no number 1", x.set(0, 1, 0), Check.PLACE);
        CHECK.due("an ORDER: no number 1", x.order(1), Check.NONE);
    }

    private static void dividing() {
        CHECK.of("All that is divided is cut towards 0, but fractions, told as two numbers in lowest terms (0 is 0 by 1)");
        CrierWeeks x = CHECK.told(RING);
        fraction(x, "5 of 10", 0, 1, 0, 5, 1, 2);
        fraction(x, "8 of 10", 0, 1, 0, 2, 4, 5);
        fraction(x, "3 of 10", 0, 1, 0, 7, 3, 10);
        fraction(x, "none", 0, 1, 0, 10, 0, 1);
        fraction(x, "none, whatever p", 0, 2, 0, 3, 0, 1);
        fraction(x, "all", 0, 1, 0, 0, 1, 1);
        fraction(CHECK.told("c9,1;z9,0;w0,1,0;"), "nobody else", 0, 0, 0, 7, 1, 1);
        CrierWeeks y = CHECK.told("c9,1;z9,0;z9,0;n0,2,0;n1,1,1;");
        CHECK.due("4 by 3, and what is over", y.share(0, 2), 2);
        CHECK.due("2 by 3", y.share(1, 2), 0);
    }

    /** speech, person, weeks, p of 10; above, below. */
    private static void fraction(CrierWeeks x, String what, int... a) {
        CHECK.due(what + ", above", x.heard(a[0], a[1], a[2], a[3], 0), a[4]);
        CHECK.due(what + ", below", x.heard(a[0], a[1], a[2], a[3], 1), a[5]);
    }

    private static void rows() {
        CHECK.of("ROWS 0 .. 7 are missing (at first)");
        CrierWeeks x = new CrierWeeks();
        for (int r = 0; r < 8; r++) {
            CHECK.due("set " + r, x.set(r, 0, 0), Check.NULL);
            CHECK.due("drop " + r, x.drop(r), Check.NULL);
        }
        CHECK.due("ROWS", x.count(0), 0);
        CHECK.due("row 8", x.row(8, 0, 0), Check.BAD);
        CHECK.due("row -1", x.row(-1, 0, 0), Check.BAD);
        CHECK.of("a LANE (0 bytes, 1 shorts, 2 ints) and 0 to 40 ITEMS");
        for (int r = 0; r < 8; r++) {
            CHECK.due("row " + r, x.row(r, r % 3, r == 0 ? 0 : 33 + r), r == 0 ? 0 : 33 + r);
            CHECK.due("ROWS", x.count(0), r + 1);
        }
        CHECK.due("41 ITEMS", x.row(0, 0, 41), Check.BAD);
        CHECK.due("fewer than none", x.row(0, 0, -1), Check.SIZE);
        CHECK.due("none: no first place", x.set(0, 0, 1), Check.PLACE);
        CHECK.due("the 40th", x.set(7, 39, 1), 1);
        CHECK.due("no 41st", x.set(7, 40, 1), Check.PLACE);
        itemsAtFirst();
    }

    private static void itemsAtFirst() {
        CHECK.of("ITEMS, 0 at first");
        CrierWeeks x = new CrierWeeks();
        CHECK.row(x, 1, 0, 1);
        x.row(0, 2, 40);
        for (int i = 0; i < 40; i++) {
            CHECK.due("item " + i, x.priced(0, i, 1, 0, 1), 0);
            x.set(0, i, 900 + i);
        }
        CHECK.due("the 40th", x.priced(0, 39, 1, 0, 1), 939);
        x.row(0, 1, 5);
        x.row(0, 2, 40);
        for (int i = 0; i < 40; i++) {
            CHECK.due("anew, item " + i, x.priced(0, i, 1, 0, 1), 0);
        }
        x.set(0, 3, 7);
        x.drop(0);
        x.row(0, 2, 40);
        CHECK.due("dropped, anew", x.priced(0, 3, 1, 0, 1), 0);
    }

    private static int wordsOf(char sort, int length) {
        return CHECK.told("c60,1;z99,0;" + sort + "0," + length + ",0;").speech(0, 3);
    }

    private static void words() {
        CHECK.of("WORDS: a notice LENGTH; a birth half of that (what is over counts as a whole); "
            + "a stammer twice; a whisper, an echo 0");
        int[] half = {0, 1, 1, 2, 2, 3, 3, 4, 4, 5, 5, 6, 6, 7, 7, 8, 8, 9, 9, 10, 10, 11, 11, 12, 12, 13, 13, 14, 14, 15, 15};
        for (int n = 1; n <= 30; n++) {
            CHECK.due("notice of " + n, wordsOf('n', n), n);
            CHECK.due("birth of " + n, wordsOf('b', n), half[n]);
            CHECK.due("stammer of " + n, wordsOf('s', n), n + n);
            CHECK.due("whisper of " + n, wordsOf('w', n), 0);
            CHECK.due("echo of " + n, wordsOf('e', n), 0);
        }
    }

    private static void stands(CrierWeeks x, String what, int left, int purse, int banked) {
        CHECK.due(what + ", LEFT", x.stand(0), left);
        CHECK.due(what + ", PURSE", x.person(0, 0), purse);
        CHECK.due(what + ", BANKED", x.person(0, 2), banked);
    }

    private static void saying() {
        CHECK.of("Saying it takes of what WHO has BANKED first, of LEFT the rest; for each word of that rest PRICE");
        CrierWeeks x = CHECK.told("c60,3;z99,0;n0,10,0;n0,4,0;n0,1,0;w0,30,0;e0,30,0;e0,1,0;");
        CHECK.due("none BANKED: crowns", x.speech(0, 4), 30);
        CHECK.due("buy", x.buy(0, 4), 4);
        CHECK.due("fewer BANKED: crowns", x.speech(0, 4), 18);
        CHECK.due("fewer BANKED", x.say(0), 6);
        stands(x, "fewer BANKED", 50, 99 - 12 - 18, 0);
        CHECK.due("buy", x.buy(0, 4), 4);
        CHECK.due("as many BANKED: crowns", x.speech(1, 4), 0);
        CHECK.due("as many BANKED", x.say(1), 0);
        stands(x, "as many BANKED", 46, 57, 0);
        CHECK.due("buy", x.buy(0, 3), 3);
        CHECK.due("more BANKED: crowns", x.speech(2, 4), 0);
        CHECK.due("more BANKED", x.say(2), 0);
        stands(x, "more BANKED", 43, 48, 2);
        CHECK.of("for a whisper 1 crown, for an echo 1 and LENGTH");
        CHECK.due("whisper", x.say(3), 0);
        stands(x, "whisper", 43, 47, 2);
        CHECK.due("the longest echo", x.say(4), 0);
        stands(x, "the longest echo", 43, 16, 2);
        CHECK.due("the shortest echo", x.say(5), 0);
        stands(x, "the shortest echo", 43, 14, 2);
        CHECK.of("of what WHO has BANKED (not of another's)");
        CrierWeeks y = CHECK.told("c60,1;z99,0;z99,0;n0,10,0;");
        y.buy(1, 10);
        CHECK.due("another's", y.say(0), 10);
        CHECK.due("stays", y.person(1, 2), 10);
        CHECK.due("PURSE", y.person(1, 0), 89);
    }

    /** A lone speech of person 0. */
    private static void can(String law, int purse, String speech, int can) {
        CrierWeeks x = CHECK.told(law + "z" + purse + ",0;" + speech);
        CHECK.due(law + purse + speech + " can", x.speech(0, 5), can);
        CHECK.due(law + purse + speech + " say", x.say(0) == Check.STATE ? 0 : 1, can);
        CHECK.due(law + purse + speech + " SAID", x.speech(0, 8), can);
    }

    private static void canBeSaid() {
        CHECK.of("It CAN be said, if there is enough LEFT");
        can("c10,1;", 99, "n0,10,0;", 1);
        can("c9,1;", 99, "n0,10,0;", 0);
        can("c60,1;", 99, "s0,30,0;", 1);
        can("c59,1;", 99, "s0,30,0;", 0);
        can("c15,1;", 99, "b0,29,0;", 1);
        can("c14,1;", 99, "b0,29,0;", 0);
        CHECK.of("It CAN be said, if there is enough in the PURSE");
        can("c60,3;", 30, "n0,10,0;", 1);
        can("c60,3;", 29, "n0,10,0;", 0);
        can("c60,9;", 99, "n0,11,0;", 1);
        can("c60,9;", 98, "n0,11,0;", 0);
        can("c1,9;", 1, "w0,30,0;", 1);
        can("c1,9;", 0, "w0,30,0;", 0);
        can("c1,9;", 31, "e0,30,0;", 1);
        can("c1,9;", 30, "e0,30,0;", 0);
        can("c1,9;", 2, "e0,1,0;", 1);
        can("c1,9;", 1, "e0,1,0;", 0);
        CHECK.of("It CAN be said, if it is not SAID");
        CrierWeeks x = CHECK.told("c60,1;z99,0;n0,1,0;w0,1,1;e0,1,2;");
        for (int s = 0; s < 3; s++) {
            CHECK.due("say " + s, x.say(s), s == 0 ? 1 : 0);
            CHECK.due("again " + s, x.say(s), Check.STATE);
            CHECK.due("can " + s, x.speech(s, 5), 0);
        }
        CHECK.of("It CAN be said: with nothing LEFT, nothing in the PURSE, all BANKED");
        CrierWeeks y = CHECK.told("c10,1;z10,0;n0,10,0;");
        CHECK.due("buy", y.buy(0, 10), 10);
        stands(y, "bought", 0, 0, 10);
        CHECK.due("can", y.speech(0, 5), 1);
        CHECK.due("say", y.say(0), 0);
        CHECK.of("It CAN be said, though what it NEEDS is not SAID");
        CHECK.due("say", CHECK.told("c10,1;z10,0;n0,5,0;n0,5,0;").say(1), 5);
        CHECK.of("a whisper takes none of LEFT");
        CrierWeeks z = CHECK.told("c10,1;z20,0;n0,10,0;w0,5,1;e0,5,2;n0,1,3;");
        CHECK.due("all of LEFT", z.say(0), 10);
        CHECK.due("a word more", z.say(3), Check.STATE);
        CHECK.due("whisper", z.say(1), 0);
        CHECK.due("echo", z.say(2), 0);
    }

    private static void ring() {
        CHECK.of("in a ring: 0 beside the last; a whisper, an echo to WHO and the one to each side; "
            + "a notice, a birth, a stammer is KNOWN to all at once");
        for (int many = 1; many <= 5; many++) {
            for (int who = 0; who < many; who++) {
                int three = 1 << who | 1 << (who + 1) % many | 1 << (who + many - 1) % many;
                for (int kind = 1; kind <= 5; kind++) {
                    CrierWeeks x = CHECK.told("c60,1;" + PEOPLE[many] + " nbswe".charAt(kind) + who + ",1,0;");
                    CHECK.due("known ahead of it", x.speech(0, 6), 0);
                    x.say(0);
                    CHECK.due(kind + " of " + who + " of " + many, x.speech(0, 6), kind < 4 ? (1 << many) - 1 : three);
                }
            }
        }
    }

    private static void comingOn() {
        CHECK.of("In a WEEK each whisper that is SAID comes to all beside those to whom it is KNOWN");
        CrierWeeks x = CHECK.told("c60,1;" + PEOPLE[5] + "w0,1,0;w2,1,1;w4,1,2;e3,1,3;w1,1,4;");
        int[] first = {19, 14, 25, 28, 7};
        for (int s = 0; s < 5; s++) {
            x.say(s);
            CHECK.due("at once " + s, x.known(s, 0), first[s]);
            CHECK.due("a WEEK ahead " + s, x.known(s, 1), 31);
        }
        x.weeks(1);
        for (int s = 0; s < 5; s++) {
            CHECK.due("a WEEK " + s, x.speech(s, 6), 31);
        }
        CHECK.of("each whisper that is SAID (one that is not is KNOWN to nobody)");
        CrierWeeks y = CHECK.told("c60,1;" + PEOPLE[5] + "w0,1,0;e0,1,0;n0,1,0;");
        y.weeks(3);
        for (int s = 0; s < 3; s++) {
            CHECK.due("not SAID " + s, y.speech(s, 6), 0);
        }
        CHECK.of("an echo so, and once more");
        CrierWeeks z = CHECK.told(RING);
        // With 1 deaf it goes by 4 and 3: to 2 behind two WEEKS as a whisper, behind one as an echo.
        CHECK.due("whisper: 1 deaf is enough", z.deaf(0, 2, 1, 1), 2);
        CHECK.due("echo: 1 and 3", z.deaf(1, 2, 1, 1), 10);
        CHECK.due("whisper, two WEEKS: 1 and 3", z.deaf(0, 2, 2, 1), 10);
    }

    private static void understanding() {
        CHECK.of("One UNDERSTANDS a SPEECH that is KNOWN to one, if that which it NEEDS is, too (if it NEEDS one)");
        CrierWeeks x = CHECK.told("c60,1;" + PEOPLE[5] + "w0,1,0;w2,1,0;n0,1,1;n0,1,3;");
        x.say(2);
        CHECK.due("what it NEEDS is not SAID", x.speech(2, 7), 0);
        x.say(1);
        CHECK.due("to 1, 2, 3", x.speech(1, 6), 14);
        CHECK.due("NEEDS 0, not SAID", x.speech(1, 7), 0);
        CHECK.due("NEEDS 1, KNOWN though nobody UNDERSTANDS it", x.speech(2, 7), 14);
        x.say(0);
        CHECK.due("NEEDS none", x.speech(0, 7), 19);
        CHECK.due("both KNOWN to 1 alone", x.speech(1, 7), 2);
        CHECK.due("person 1", x.person(1, 4), 7);
        CHECK.due("person 2", x.person(2, 4), 4);
        CHECK.due("person 0", x.person(0, 4), 1);
        CHECK.due("not KNOWN, NEEDS none", x.speech(3, 7), 0);
        x.weeks(1);
        CHECK.due("behind a WEEK", x.speech(1, 7), 31);
    }

    private static int purseBehind(int purse, int income, int weeks) {
        CrierWeeks x = CHECK.told("c60,1;z" + purse + "," + income + ";n0,1,0;");
        CHECK.due("foretold", x.purse(0, weeks) - Math.min(99, purse + income * weeks), 0);
        x.weeks(weeks);
        return x.person(0, 0);
    }

    private static void week() {
        CHECK.of("A WEEK: what is LEFT comes to the HILL (999 at most)");
        CrierWeeks x = CHECK.told("c37,1;z99,0;n0,30,0;");
        CHECK.due("24 WEEKS", x.weeks(24), 24 * 37);
        CHECK.due("962", x.weeks(2), 962);
        CHECK.due("999, all of it", x.weeks(1), 999);
        CHECK.due("not more", x.weeks(1), 999);
        x.undo();
        CHECK.due("a WEEK undone that brought nothing", x.stand(1), 999);
        x.undo();
        CHECK.due("one more undone", x.stand(1), 962);
        CrierWeeks y = CHECK.told("c60,1;z99,0;n0,30,0;");
        CHECK.due("16 WEEKS", y.weeks(16), 960);
        CHECK.due("1020 is too many", y.weeks(1), 999);
        CrierWeeks z = CHECK.told("c38,1;z99,0;n0,1,0;");
        z.weeks(24);
        z.weeks(2);
        z.say(0);
        CHECK.due("988 and 37", z.weeks(1), 999);
        CHECK.of("LEFT is RATION");
        CHECK.due("of fewer", z.stand(0), 38);
        z.letOut(61);
        CHECK.due("of more", z.stand(0), 99);
        CHECK.due("all comes to the HILL", z.weeks(1), 999);
        CHECK.due("RATION", z.stand(0), 38);
        CHECK.of("each PURSE has INCOME more (99 at most)");
        CHECK.due("98 and 1", purseBehind(98, 1, 1), 99);
        CHECK.due("98 and 2", purseBehind(98, 2, 1), 99);
        CHECK.due("99 and 20", purseBehind(99, 20, 1), 99);
        CHECK.due("79 and 20", purseBehind(79, 20, 1), 99);
        CHECK.due("78 and 20", purseBehind(78, 20, 1), 98);
        CHECK.due("99 and 0", purseBehind(99, 0, 9), 99);
        CHECK.due("0 and 0", purseBehind(0, 0, 9), 0);
        CHECK.due("0 and 20, 5 WEEKS", purseBehind(0, 20, 5), 99);
        CHECK.due("0 and 20, 4 WEEKS", purseBehind(0, 20, 4), 80);
        CHECK.of("WEEK is 1 more");
        CHECK.due("28", z.count(3), 28);
    }

    private static void acts() {
        CHECK.of("ACTS (24 at most are kept, of more the oldest is forgotten; each can be undone, the latest first)");
        CrierWeeks x = CHECK.told("c60,1;z99,0;n0,1,0;");
        for (int i = 0; i < 24; i++) {
            x.price(1 + (i + 1) % 9);
            CHECK.due("kept", x.count(6), i + 1);
        }
        x.price(9);
        CHECK.due("of 25", x.count(6), 24);
        for (int i = 24; i > 0; i--) {
            CHECK.due("price of ACT " + i, x.stand(2), i == 24 ? 9 : 1 + (i + 1) % 9);
            CHECK.due("undo", x.undo(), i - 1);
        }
        CHECK.due("the oldest is forgotten", x.undo(), Check.STATE);
        CHECK.due("what it did stays", x.stand(2), 2);
        CHECK.of("of more the oldest is forgotten: round the ring twice");
        CrierWeeks y = CHECK.told("c60,1;z99,0;n0,1,0;");
        y.weeks(24);
        y.weeks(24);
        y.weeks(5);
        for (int i = 23; i >= 10; i--) {
            CHECK.due("undo", y.undo(), i);
        }
        CHECK.due("WEEK", y.count(3), 39);
        y.weeks(20);
        CHECK.due("kept", y.count(6), 24);
        for (int i = 23; i >= 0; i--) {
            CHECK.due("undo", y.undo(), i);
            CHECK.due("WEEK", y.count(3), 35 + i);
        }
        CHECK.due("none", y.undo(), Check.STATE);
        CHECK.due("WEEK stays", y.count(3), 35);
        eachAct();
    }

    private static void eachAct() {
        CHECK.of("ACTS: a WEEK; a SPEECH is SAID; a PERSON buys words; words come out of the HILL; PRICE is another");
        CrierWeeks x = CHECK.told("c20,2;z50,3;z9,1;w1,5,0;n0,9,1;");
        x.say(0);
        x.weeks(2);
        x.buy(0, 4);
        x.say(1);
        x.letOut(7);
        x.price(5);
        CHECK.due("each one", x.count(6), 7);
        CHECK.due("PRICE", x.undo() * 100 + x.stand(2), 602);
        CHECK.due("out of the HILL", x.undo() * 10000 + x.stand(1) * 100 + x.stand(0), 54011);
        CHECK.due("SAID", x.undo() * 100 + x.stand(4), 401);
        stands(x, "not SAID", 16, 48, 4);
        CHECK.due("not KNOWN", x.speech(1, 6), 0);
        CHECK.due("bought", x.undo(), 3);
        stands(x, "not bought", 20, 56, 0);
        CHECK.due("a WEEK", x.undo() * 100 + x.count(3), 201);
        stands(x, "one WEEK", 20, 53, 0);
        CHECK.due("the HILL", x.stand(1), 20);
        CHECK.due("the first WEEK", x.undo() * 100 + x.count(3), 100);
        CHECK.due("the HILL", x.stand(1), 0);
        CHECK.due("the whisper", x.undo() * 100 + x.stand(4), 0);
        CHECK.due("PURSE of 1", x.person(1, 0), 9);
        CHECK.due("none", x.undo(), Check.STATE);
    }

    private static void bankedAndLeft() {
        CHECK.of("they are BANKED (99 at most)");
        CrierWeeks x = CHECK.told("c60,1;z99,20;n0,1,0;");
        x.buy(0, 60);
        x.weeks(5);
        CHECK.due("100", x.buy(0, 40), Check.STATE);
        CHECK.due("99", x.buy(0, 39), 99);
        CHECK.due("one more", x.buy(0, 1), Check.STATE);
        stands(x, "99", 21, 60, 99);
        CHECK.of("LEFT is so many more (99 at most)");
        CHECK.due("100", x.letOut(79), Check.STATE);
        CHECK.due("99", x.letOut(78), 99);
        CHECK.due("one more", x.letOut(1), Check.STATE);
        CHECK.due("the HILL", x.stand(1), 4 * 60 - 78);
        CHECK.of("words of LEFT (of what was let out too)");
        CHECK.due("61 words of a RATION of 60", CHECK.told("c60,1;z99,0;n0,1,0;").buy(0, 61), Check.BAD);
        CrierWeeks y = CHECK.told("c10,1;z99,0;n0,20,0;");
        y.weeks(2);
        CHECK.due("20 of 10", y.say(0), Check.STATE);
        CHECK.due("10 more", y.letOut(10), 20);
        CHECK.due("20 of 20", y.say(0), 20);
    }

    private static void ahead() {
        CHECK.of("FORETOLD (nothing changes). AHEAD by n WEEKS (0 to 60)");
        CrierWeeks x = CHECK.told("c20,2;z30,1;z99,20;z0,0;n0,9,0;w1,4,1;");
        x.say(0);
        x.say(1);
        CHECK.bounds("purse", 0, 60, n -> x.purse(0, n));
        CHECK.bounds("hill", 0, 60, n -> x.hill(n));
        CHECK.bounds("known", 0, 60, n -> x.known(0, n));
        CHECK.due("PURSE now", x.purse(0, 0), 12);
        CHECK.due("PURSE, 60", x.purse(0, 60), 72);
        CHECK.due("99 at most", x.purse(1, 1), 99);
        CHECK.due("no INCOME", x.purse(2, 60), 0);
        CHECK.due("the HILL now", x.hill(0), 0);
        CHECK.due("the HILL, 1: what is LEFT", x.hill(1), 11);
        CHECK.due("the HILL, 2: a RATION more", x.hill(2), 31);
        CHECK.due("the HILL, 50", x.hill(50), 991);
        CHECK.due("999 at most", x.hill(51), 999);
        CHECK.due("WEEK", x.count(3), 0);
        CHECK.due("LEFT", x.stand(0), 11);
        CHECK.due("ACTS", x.count(6), 2);
        CHECK.of("ALL KNOW: behind how many WEEKS (0 to 60) it is KNOWN to all first; NONE");
        CrierWeeks y = CHECK.told("c60,1;" + PEOPLE[5] + "w0,1,0;e0,1,0;n0,1,0;w1,1,0;");
        CHECK.due("not SAID", y.allKnow(0), Check.NONE);
        CHECK.due("a notice that is not SAID", y.allKnow(2), Check.NONE);
        for (int s = 0; s < 3; s++) {
            y.say(s);
        }
        CHECK.due("whisper", y.allKnow(0), 1);
        CHECK.due("echo", y.allKnow(1), 1);
        CHECK.due("notice", y.allKnow(2), 0);
        y.weeks(1);
        CHECK.due("whisper by now", y.allKnow(0), 0);
        CHECK.due("not SAID", y.allKnow(3), Check.NONE);
        CrierWeeks four = CHECK.told("c60,1;" + PEOPLE[4] + "w0,1,0;");
        four.say(0);
        CHECK.due("four people", four.allKnow(0), 1);
        CrierWeeks three = CHECK.told("c60,1;" + PEOPLE[3] + "w0,1,0;");
        three.say(0);
        CHECK.due("three people", three.allKnow(0), 0);
    }

    private static void when() {
        CHECK.of("WHEN: behind how many WEEKS (0 to 60) a SPEECH CAN be said first; NONE");
        CHECK.due("now", CHECK.told("c30,3;z63,1;n0,21,0;").when(0), 0);
        CHECK.due("behind 1", CHECK.told("c30,3;z62,1;n0,21,0;").when(0), 1);
        CHECK.due("behind 60", CHECK.told("c30,3;z3,1;n0,21,0;").when(0), 60);
        CHECK.due("61 is too late", CHECK.told("c30,3;z2,1;n0,21,0;").when(0), Check.NONE);
        CHECK.due("no INCOME", CHECK.told("c30,3;z62,0;n0,21,0;").when(0), Check.NONE);
        CHECK.due("6 and 20", CHECK.told("c30,3;z43,20;n0,21,0;").when(0), 1);
        CHECK.due("more than once", CHECK.told("c30,3;z42,20;n0,21,0;").when(0), 2);
        CHECK.due("99 crowns", CHECK.told("c30,9;z0,20;n0,11,0;").when(0), 5);
        CHECK.due("100 crowns", CHECK.told("c30,5;z99,20;n0,20,0;").when(0), Check.NONE);
        CHECK.due("as many words as RATION", CHECK.told("c20,1;z99,0;n0,20,0;").when(0), 0);
        CHECK.due("more words than RATION", CHECK.told("c19,1;z99,0;n0,20,0;").when(0), Check.NONE);
        CrierWeeks x = CHECK.told("c20,1;z20,5;w0,1,0;n0,20,1;n0,1,2;");
        x.say(2);
        CHECK.due("RATION again", x.when(1), 1);
        x.weeks(2);
        x.letOut(1);
        CHECK.due("more is LEFT", x.when(1), 0);
        CrierWeeks just = CHECK.told("c20,1;z21,0;n0,20,0;n0,1,1;");
        just.say(1);
        CHECK.due("RATION again, just enough in the PURSE, no INCOME", just.when(0), 1);
        CrierWeeks less = CHECK.told("c20,1;z20,0;n0,20,0;n0,1,1;");
        less.say(1);
        CHECK.due("RATION again, a crown too few, no INCOME", less.when(0), Check.NONE);
        CrierWeeks y = CHECK.told("c10,1;z0,1;n0,20,0;n0,11,1;");
        y.weeks(11);
        y.letOut(10);
        CHECK.due("enough LEFT now alone, and in the PURSE", y.when(1), 0);
        CHECK.due("enough LEFT now alone, not in the PURSE", y.when(0), Check.NONE);
        CHECK.due("a whisper", CHECK.told("c1,9;z0,1;w0,30,0;").when(0), 1);
        CHECK.due("an echo", CHECK.told("c1,9;z0,1;e0,30,0;").when(0), 31);
        CrierWeeks said = CHECK.told("c1,9;z1,1;w0,30,0;");
        said.say(0);
        CHECK.due("SAID", said.when(0), Check.STATE);
    }

    private static void mostIs(String what, CrierWeeks x, int which, int words, int people) {
        CHECK.due(what + ", which", x.most(0), which);
        CHECK.due(what + ", words", x.most(1), words);
        CHECK.due(what + ", people", x.most(2), people);
    }

    private static void most() {
        CHECK.of("MOST: sets of SPEECHES that are not SAID, which CAN be said now: none");
        mostIs("none CAN", CHECK.told("c1,1;z50,0;z50,0;n0,2,0;"), 0, 0, 2);
        CrierWeeks said = CHECK.told("c9,1;z50,0;z50,0;n0,2,0;w1,1,1;");
        said.say(0);
        said.say(1);
        mostIs("all SAID", said, 0, 0, 2);
        CHECK.of("MOST: one behind another");
        mostIs("all LEFT", CHECK.told("c6,1;z50,0;n0,1,0;n0,2,1;n0,3,2;"), 7, 6, 1);
        mostIs("a word too few", CHECK.told("c5,1;z50,0;n0,1,0;n0,2,1;n0,3,2;"), 3, 3, 1);
        mostIs("the whole PURSE", CHECK.told("c60,2;z12,0;n0,1,0;n0,2,1;n0,3,2;"), 7, 6, 1);
        mostIs("a crown too few", CHECK.told("c60,2;z11,0;n0,1,0;n0,2,1;n0,3,2;"), 3, 3, 1);
        mostIs("six", CHECK.told("c60,1;z50,0;n0,1,0;w0,1,1;e0,1,2;b0,1,3;s0,1,4;n0,1,5;"), 63, 5, 1);
        CrierWeeks banked = CHECK.told("c10,1;z20,0;n0,5,0;n0,5,1;n0,5,2;");
        banked.buy(0, 5);
        mostIs("BANKED once", banked, 3, 5, 1);
        CHECK.of("MOST: of those with most SPEECHES");
        mostIs("two of few, not one of many", CHECK.told("c9,1;z50,0;n0,9,0;n0,4,1;n0,5,2;"), 6, 9, 1);
        mostIs("three of more words, not two", CHECK.told("c9,1;z9,0;n0,9,0;n0,2,1;n0,3,2;n0,4,3;"), 14, 9, 1);
        CHECK.of("MOST: of these the one that takes fewest words of LEFT");
        mostIs("the later one", CHECK.told("c9,1;z9,0;n0,6,0;n0,5,1;"), 2, 5, 1);
        mostIs("a whisper takes none", CHECK.told("c9,1;z5,0;n0,5,0;w0,9,1;n0,5,2;"), 2, 0, 1);
        mostIs("a whisper beside a notice", CHECK.told("c9,1;z6,0;n0,5,0;w0,9,1;n0,5,2;"), 3, 5, 1);
        CHECK.of("MOST: of these the least");
        mostIs("the first of equals", CHECK.told("c5,1;z9,0;n0,5,0;n0,5,1;n0,5,2;"), 1, 5, 1);
        mostIs("0 and 3, not 1 and 2", CHECK.told("c9,1;z9,0;n0,5,0;n0,5,1;n0,5,2;n0,4,3;"), 9, 9, 1);
        CHECK.of("MOST: how many PEOPLE would UNDERSTAND all of them then");
        CrierWeeks x = CHECK.told("c9,1;" + PEOPLE[5] + "w0,1,0;w2,1,1;");
        mostIs("to 1 alone", x, 3, 0, 1);
        x.say(0);
        mostIs("2 and those beside", x, 2, 0, 3);
        x.weeks(1);
        mostIs("no more than it is KNOWN to", x, 2, 0, 3);
        mostIs("NEEDS one that CAN not be", CHECK.told("c9,1;z9,0;z0,0;w1,1,0;n0,1,0;"), 2, 1, 0);
        mostIs("NEEDS one of them", CHECK.told("c9,1;z9,0;z1,0;w1,1,0;n0,1,0;"), 3, 1, 2);
    }

    private static void orderIs(String what, CrierWeeks x, int weeks, int... order) {
        CHECK.due(what + ", WEEKS", x.order(-1), weeks);
        for (int k = 0; k < order.length; k++) {
            CHECK.due(what + ", " + k, x.order(k), order[k]);
        }
        CHECK.due(what + ", not so many", x.order(order.length), Check.NONE);
    }

    private static void order() {
        CHECK.of("ORDER: WEEKS go by till then, 60 in all at most; NONE: by none");
        orderIs("60", CHECK.told("c9,1;z0,1;e0,29,0;e0,29,1;"), 60, 0, 1);
        orderIs("61", CHECK.told("c9,1;z0,1;e0,29,0;e0,30,1;"), Check.NONE);
        orderIs("60 by one", CHECK.told("c30,3;z3,1;n0,21,0;"), 60, 0);
        orderIs("61 by one", CHECK.told("c30,3;z2,1;n0,21,0;"), Check.NONE);
        orderIs("one never", CHECK.told("c9,1;z99,1;w0,1,0;n0,10,1;"), Check.NONE);
        orderIs("by one order alone in time", CHECK.told("c20,1;z20,1;n0,20,0;e0,29,1;"), 30, 0, 1);
        CrierWeeks dearer = CHECK.told("c20,1;z50,0;n0,20,0;n0,20,1;");
        orderIs("found", dearer, 1, 0, 1);
        dearer.price(3);
        orderIs("by none then", dearer, Check.NONE);
        dearer.price(1);
        orderIs("found again", dearer, 1, 0, 1);
        CHECK.of("ORDER: none that is not SAID");
        CrierWeeks all = CHECK.told("c9,1;z9,1;n0,1,0;w0,1,1;");
        all.say(0);
        all.say(1);
        orderIs("all SAID", all, 0);
        CHECK.of("ORDER: SPEECHES that are not SAID");
        CrierWeeks some = CHECK.told("c9,1;z9,0;n0,1,0;w0,1,1;n0,2,2;");
        some.say(1);
        orderIs("two of three", some, 0, 0, 2);
        CHECK.of("ORDER: the one by which fewest WEEKS go by, of several the first (by numbers)");
        orderIs("six at once", CHECK.told("c60,1;z50,0;n0,1,0;w0,1,1;e0,1,2;b0,1,3;s0,1,4;n0,1,5;"), 0, 0, 1, 2, 3, 4, 5);
        orderIs("4 and 6, 4 and 6", CHECK.told("c10,1;z99,0;n0,6,0;n0,6,1;n0,4,2;n0,4,3;"), 1, 0, 2, 1, 3);
        orderIs("6, 4 and 7", CHECK.told("c10,1;z99,0;n0,6,0;n0,7,1;n0,4,2;"), 1, 0, 2, 1);
        orderIs("either way", CHECK.told("c10,1;z99,0;n0,6,0;n0,7,1;"), 1, 0, 1);
        CHECK.of("ORDER: each said as soon as it CAN be");
        CrierWeeks now = CHECK.told("c10,1;z99,0;n0,12,0;n0,5,1;");
        now.weeks(1);
        now.letOut(2);
        orderIs("now or never", now, 1, 0, 1);
    }

    private static void clear() {
        CHECK.of("CLEAR: SPEECHES (bits) that all UNDERSTAND now");
        CrierWeeks x = CHECK.told("c60,1;" + PEOPLE[5] + "w0,1,0;n2,1,0;n0,1,2;");
        CHECK.due("none", x.clear(), 0);
        x.say(1);
        CHECK.due("KNOWN to all, not UNDERSTOOD", x.clear(), 0);
        x.say(0);
        CHECK.due("UNDERSTOOD by three", x.clear(), 0);
        x.say(2);
        CHECK.due("NEEDS none", x.clear(), 4);
        x.weeks(1);
        CHECK.due("all", x.clear(), 7);
    }

    private static void passedOn() {
        CHECK.of("PASSED ON: a SPEECH, SAID now if it is not (as if it CAN be, whatever it takes)");
        CrierWeeks poor = CHECK.told("c1,9;z0,0;z0,0;z0,0;z0,0;z0,0;w0,9,0;n0,30,1;");
        CHECK.due("a whisper without a crown", poor.deaf(0, 1, 0, 0), Check.NONE);
        fraction(poor, "a whisper without a crown", 0, 1, 0, 4, 3, 5);
        fraction(poor, "a notice without a word", 1, 3, 0, 10, 1, 1);
        CHECK.due("nothing is SAID", poor.stand(4), 0);
        CHECK.of("WHO of it is never deaf");
        fraction(poor, "WHO", 0, 0, 0, 10, 1, 1);
        fraction(poor, "WHO, 30 WEEKS", 0, 0, 30, 10, 1, 1);
        CHECK.of("to whom it is KNOWN by now it stays so, and comes on");
        CrierWeeks x = CHECK.told(RING);
        CHECK.due("ahead of it 1 deaf keeps 2 from it", x.deaf(0, 2, 1, 1), 2);
        x.say(0);
        CHECK.due("1 passes it on", x.deaf(0, 2, 1, 0), Check.NONE);
        fraction(x, "1 knows, deaf or not", 0, 1, 0, 10, 1, 1);
        fraction(x, "2 by 1, if not deaf", 0, 2, 1, 3, 7, 10);
        fraction(x, "nobody new", 0, 2, 30, 10, 0, 1);
        CHECK.of("a notice, a birth, a stammer comes to the deaf too");
        for (char sort : "nbs".toCharArray()) {
            CrierWeeks y = CHECK.told("c60,1;" + PEOPLE[5] + sort + "0,1,0;");
            CHECK.due("deaf " + sort, y.deaf(0, 2, 0, 0), Check.NONE);
            fraction(y, "heard " + sort, 0, 2, 0, 10, 1, 1);
        }
    }

    private static void deafIs(CrierWeeks x, int speech, int person, int n, int many, int which) {
        String call = "deaf " + speech + ", " + person + ", " + n;
        CHECK.due(call + ": how many", x.deaf(speech, person, n, 0), many);
        CHECK.due(call + ": which", x.deaf(speech, person, n, 1), which);
    }

    private static void deaf() {
        CHECK.of("DEAF for a SPEECH, a PERSON, n WEEKS (0 to 30)");
        CrierWeeks x = CHECK.told(RING);
        CHECK.bounds("deaf", 0, 30, n -> x.deaf(0, 2, n, 0));
        CHECK.of("DEAF: the fewest other PEOPLE: none need be");
        deafIs(x, 0, 2, 0, 0, 0);
        deafIs(x, 1, 3, 0, 0, 0);
        CHECK.of("DEAF: how many; which (bits), of several the least");
        deafIs(x, 0, 2, 1, 1, 2);
        deafIs(x, 0, 3, 1, 1, 16);
        deafIs(x, 0, 2, 2, 2, 10);
        deafIs(x, 0, 3, 2, 2, 18);
        deafIs(x, 0, 3, 30, 2, 18);
        deafIs(x, 1, 3, 1, 2, 18);
        CHECK.of("DEAF: other PEOPLE (the PERSON not, WHO not); NONE");
        deafIs(x, 0, 0, 0, Check.NONE, Check.NONE);
        deafIs(x, 0, 1, 0, Check.NONE, Check.NONE);
        deafIs(x, 0, 4, 30, Check.NONE, Check.NONE);
        deafIs(x, 2, 3, 0, Check.NONE, Check.NONE);
        CrierWeeks alone = CHECK.told("c9,1;z9,0;w0,1,0;");
        deafIs(alone, 0, 0, 0, Check.NONE, Check.NONE);
        CrierWeeks four = CHECK.told("c9,1;" + PEOPLE[4] + "w3,1,0;");
        deafIs(four, 0, 1, 0, 0, 0);
        deafIs(four, 0, 1, 1, 2, 5);
    }

    private static void shares(CrierWeeks x, int n, int... due) {
        for (int p = 0; p < due.length; p++) {
            CHECK.due("share of " + p + ", " + n, x.share(p, n), due[p]);
        }
    }

    private static void share() {
        CHECK.of("SHARE of n words (0 to 99)");
        CrierWeeks x = CHECK.told("c60,1;z99,0;z99,0;z99,0;w0,1,0;n1,1,1;n2,2,2;");
        CHECK.bounds("share", 0, 99, n -> x.share(1, n));
        shares(x, 0, 0, 0, 0);
        shares(x, 99, 0, 33, 66);
        CHECK.of("SHARE: what is over 1 each to the first ones whose claim is above 0");
        shares(x, 1, 0, 1, 0);
        shares(x, 2, 0, 1, 1);
        shares(x, 3, 0, 1, 2);
        shares(x, 4, 0, 2, 2);
        shares(x, 5, 0, 2, 3);
        shares(CHECK.told("c60,1;z9,0;z9,0;z9,0;n0,1,0;n1,1,1;n2,1,2;"), 5, 2, 2, 1);
        shares(CHECK.told("c60,1;z9,0;z9,0;z9,0;n0,1,0;n1,1,1;n2,1,2;"), 4, 2, 1, 1);
        shares(CHECK.told("c60,1;z9,0;z9,0;z9,0;z9,0;z9,0;n0,1,0;n2,1,1;n4,1,2;"), 5, 2, 0, 2, 0, 1);
        CHECK.of("SHARE: less BANKED (0 at least)");
        x.buy(2, 1);
        shares(x, 99, 0, 50, 49);
        x.buy(2, 1);
        shares(x, 99, 0, 99, 0);
        x.buy(2, 5);
        shares(x, 99, 0, 99, 0);
        x.buy(0, 5);
        shares(x, 99, 0, 99, 0);
        CHECK.of("SHARE: WORDS of all SPEECHES of WHO that are not SAID");
        CrierWeeks y = CHECK.told("c60,1;z99,0;z99,0;n0,3,0;b0,3,1;s1,2,2;e1,9,3;");
        shares(y, 9, 5, 4);
        y.say(0);
        shares(y, 6, 2, 4);
        CHECK.of("SHARE: 0, if there are no claims");
        y.say(1);
        y.say(2);
        shares(y, 99, 0, 0);
        shares(CHECK.told("c60,1;z99,0;w0,1,0;"), 99, 0);
    }

    private static CrierWeeks buyer(String text, int... prices) {
        CrierWeeks x = CHECK.told(text);
        CHECK.row(x, 0, 0, prices);
        return x;
    }

    private static void thrift() {
        CHECK.of("A row tells PRICES (1 to 9) of n WEEKS (1 to 12), this one first");
        CrierWeeks x = buyer("c60,1;z50,0;n0,1,0;", 1, 9, 9, 9, 9, 9, 9, 9, 9, 9, 9, 1, 1, 0, 10, -1);
        CHECK.bounds("n", 1, 12, n -> x.thrift(0, 0, 0, 0, n));
        CHECK.bounds("w", 0, 60, w -> x.thrift(0, w, 0, 0, 1));
        CHECK.due("PRICE 0", x.thrift(0, 0, 0, 13, 1), Check.KIND);
        CHECK.due("PRICE 10", x.thrift(0, 0, 0, 14, 1), Check.KIND);
        CHECK.due("PRICE -1", x.thrift(0, 0, 0, 15, 1), Check.KIND);
        CHECK.due("the last of them is none", x.thrift(0, 0, 0, 11, 3), Check.KIND);
        CHECK.due("those behind are not looked at", x.thrift(0, 0, 0, 11, 2), 50);
        CHECK.due("the first of 12", x.thrift(0, 50, 0, 0, 12), 0);
        CHECK.due("the last of 12", x.thrift(0, 50, 0, 1, 12), 0);
        CHECK.due("one WEEK", x.thrift(0, 5, 0, 1, 1), 5);
        CHECK.of("a PERSON buys as many words as they like (RATION at most)");
        CrierWeeks few = buyer("c5,9;z60,0;z99,0;n0,5,0;", 1, 1, 1, 1, 1, 1, 1, 1, 1, 1, 1, 1);
        CHECK.due("RATION", few.thrift(0, 5, 0, 0, 1), 55);
        CHECK.due("one more", few.thrift(0, 6, 0, 0, 1), Check.NONE);
        CHECK.due("60 in 12 WEEKS", few.thrift(0, 60, 0, 0, 12), 0);
        CHECK.due("60 in 11 WEEKS", few.thrift(0, 60, 0, 0, 11), Check.NONE);
        CHECK.due("55 in 11 WEEKS", few.thrift(0, 55, 0, 0, 11), 5);
        few.buy(1, 5);
        CHECK.due("RATION, whatever is LEFT", few.thrift(0, 5, 0, 0, 1), 55);
        CHECK.of("a PERSON buys (as the PURSE allows)");
        CrierWeeks poor = buyer("c60,9;z18,0;z0,20;n0,5,0;", 9, 9, 1);
        CHECK.due("all of it", poor.thrift(0, 2, 0, 0, 1), 0);
        CHECK.due("a crown too few", poor.thrift(0, 3, 0, 0, 1), Check.NONE);
        CHECK.due("18 by 1", poor.thrift(0, 18, 0, 0, 3), 0);
        CHECK.due("19 by 1", poor.thrift(0, 19, 0, 0, 3), Check.NONE);
        CHECK.of("then comes INCOME (99 at most)");
        CHECK.due("not in time", poor.thrift(1, 1, 0, 0, 1), Check.NONE);
        CHECK.due("in time", poor.thrift(1, 2, 0, 0, 2), 22);
        CHECK.due("w 0", poor.thrift(1, 0, 0, 0, 3), 60);
        CrierWeeks rich = buyer("c60,9;z99,20;z79,20;z80,20;n0,5,0;", 9, 1, 9);
        CHECK.due("99", rich.thrift(0, 0, 0, 0, 1), 99);
        CHECK.due("99 by what was bought", rich.thrift(0, 2, 0, 0, 1), 99);
        CHECK.due("the whole PURSE, then INCOME", rich.thrift(0, 11, 0, 0, 1), 20);
        CHECK.due("79 and 20", rich.thrift(1, 0, 0, 0, 1), 99);
        CHECK.due("80 and 20", rich.thrift(2, 0, 0, 0, 1), 99);
        CHECK.due("2 dear ones of what would be too much", rich.thrift(0, 22, 0, 0, 2), 99);
        CHECK.due("3 WEEKS", rich.thrift(0, 24, 0, 0, 3), 99);
        CHECK.of("THRIFT: nothing changes");
        CHECK.due("PURSE", rich.person(0, 0), 99);
        CHECK.due("LEFT", rich.stand(0), 60);
    }

    private static void who() {
        CHECK.of("A row tells to how many a SPEECH is KNOWN behind each of n WEEKS (1 to 12), "
            + "were it SAID now (KNOWN to nobody ahead of that)");
        for (int many = 1; many <= 5; many++) {
            CrierWeeks x = CHECK.told("c60,1;" + PEOPLE[many] + "w0,1,0;n0,1,1;");
            x.row(0, 2, 14);
            for (int i = 0; i < 12; i++) {
                x.set(0, i, many);
            }
            x.set(0, 12, many - 1);
            x.set(0, 13, many + 1);
            CHECK.bounds("n", 1, 12, n -> x.who(0, 0, 0, 0, n));
            for (int n = 1; n <= 12; n += 11) {
                CHECK.due("KINDS, " + n, x.who(0, 0, 0, 0, n), 62);
                CHECK.due("WHOSE, " + n, x.who(0, 1, 0, 0, n), (1 << many) - 1);
            }
            CHECK.due("one fewer: KINDS", x.who(1, 0, 0, 12, 1), 0);
            CHECK.due("one fewer: WHOSE", x.who(1, 1, 0, 12, 1), 0);
            CHECK.due("one more", x.who(1, 0, 0, 13, 1), 0);
            CHECK.due("one fewer, the last of 12", x.who(1, 0, 0, 1, 12), 0);
            x.say(0);
            CHECK.due("SAID: KINDS", x.who(0, 0, 0, 0, 12), 62);
            CHECK.due("SAID: WHOSE", x.who(0, 1, 0, 0, 12), (1 << many) - 1);
        }
        CHECK.of("who: an ITEM may be any number");
        CrierWeeks x = CHECK.told(RING);
        CHECK.row(x, 0, 2, -1, 0, Check.LEAST, Check.MOST, 1000000);
        for (int i = 0; i < 5; i++) {
            CHECK.due("ITEM " + i, x.who(0, 0, 0, i, 1), 0);
            CHECK.due("status", x.status(), 0);
        }
    }

    private static void priced() {
        CHECK.of("PRICED: n ITEMS each (1 to 12): (0 to 999 each ITEM of the one, 1 to 9 of the other)");
        CrierWeeks x = new CrierWeeks();
        x.row(0, 1, 14);
        x.row(1, 0, 14);
        for (int i = 0; i < 12; i++) {
            x.set(0, i, 999);
            x.set(1, i, 9);
        }
        CHECK.bounds("n", 1, 12, n -> x.priced(0, 0, 1, 0, n));
        CHECK.due("the most", x.priced(0, 0, 1, 0, 12), 12 * 999 * 9);
        CHECK.due("one", x.priced(0, 0, 1, 0, 1), 8991);
        CHECK.due("0 words", x.priced(0, 12, 1, 0, 1), 0);
        CHECK.due("PRICE 0", x.priced(0, 0, 1, 12, 1), Check.KIND);
        CHECK.due("PRICE 0 of 0 words", x.priced(0, 12, 1, 12, 1), Check.KIND);
        x.set(1, 12, 10);
        CHECK.due("PRICE 10", x.priced(0, 0, 1, 12, 1), Check.KIND);
        x.set(1, 12, 1);
        CHECK.due("PRICE 1", x.priced(0, 0, 1, 12, 1), 999);
        x.set(0, 12, 1000);
        CHECK.due("1000 words", x.priced(0, 12, 1, 0, 1), Check.KIND);
        x.set(0, 12, -1);
        CHECK.due("-1 words", x.priced(0, 12, 1, 0, 1), Check.KIND);
        CHECK.due("the last of 12", x.priced(0, 1, 1, 0, 12), Check.KIND);
        CHECK.due("ahead of it", x.priced(0, 1, 1, 0, 11), 11 * 8991);
        x.set(1, 13, -1);
        CHECK.due("the last of 12 PRICES", x.priced(0, 0, 1, 2, 12), Check.KIND);
    }

    private static void heard() {
        CHECK.of("HEARD by p of 10 (0 to 10), behind n WEEKS (0 to 30)");
        CrierWeeks x = CHECK.told(RING);
        CHECK.bounds("p", 0, 10, p -> x.heard(0, 2, 1, p, 0));
        CHECK.bounds("n", 0, 30, n -> x.heard(0, 2, n, 1, 0));
        fraction(x, "p 0", 0, 2, 1, 0, 1, 1);
        fraction(x, "p 10", 0, 2, 30, 10, 0, 1);
        fraction(x, "at once", 0, 2, 0, 0, 0, 1);
        CHECK.of("HEARD: each PERSON but WHO is deaf in p of 10 cases, apart");
        fraction(x, "1 and 2", 0, 2, 1, 1, 81, 100);
        // 2 hears (9/10), and 1 does (9/10) or else 4 and 3 do (1/10 times 81/100).
        fraction(x, "1, or 4 and 3", 0, 2, 30, 1, 9 * 981, 10000);
        fraction(x, "an echo by a WEEK", 1, 2, 1, 1, 9 * 981, 10000);
        fraction(x, "WHO", 0, 0, 0, 10, 1, 1);
        fraction(x, "a notice", 2, 2, 0, 10, 1, 1);
    }

    private static int drawnSet(long seed, int n, int many) {
        int set = 0;
        long x = seed;
        for (int w = 0; w < n; w++) {
            x = x * 16807L % 2147483647L;
            set |= 1 << (int) (x % many);
        }
        return set;
    }

    private static void terms() {
        CHECK.of("TERMS of n WEEKS (0 to 60) by a SEED");
        CrierWeeks x = CHECK.told("c10,1;z99,0;w0,1,0;w0,1,1;w0,1,2;w0,1,3;w0,1,4;w0,1,5;");
        CHECK.bounds("n", 0, 60, n -> x.drawn(n, 1, 0));
        CHECK.bounds("SEED", 1, 999999, seed -> x.drawn(1, seed, 0));
        CHECK.due("no WEEKS", x.drawn(0, 1, 0), 0);
        CHECK.due("no WEEKS, the HILL", x.drawn(0, 1, 1), 0);
        CHECK.due("60 WEEKS, the HILL", x.drawn(60, 1, 1), 600);
        CHECK.of("ahead of each X becomes the rest of (X times 16807) by 2147483647");
        for (int seed : new int[] {1, 2, 127773, 127774, 500000, 999998, 999999}) {
            for (int n = 1; n <= 12; n++) {
                CHECK.due("by " + seed + ", " + n, x.drawn(n, seed, 0), drawnSet(seed, n, 6));
            }
        }
        CHECK.of("SPEECHES that are SAID (by now too); the HILL (999 at most)");
        x.say(5);
        CHECK.due("SAID by now", x.drawn(0, 1, 0), 32);
        CHECK.due("nothing changes", x.stand(4), 32);
        CrierWeeks y = CHECK.told("c60,1;z0,0;n0,1,0;");
        CHECK.due("16 WEEKS", y.drawn(16, 9, 1), 960);
        CHECK.due("17 WEEKS", y.drawn(17, 9, 1), 999);
        CHECK.due("60 WEEKS", y.drawn(60, 9, 1), 999);
        CHECK.of("is said, if it CAN be; then the WEEK");
        CHECK.due("it CAN not", y.drawn(60, 9, 0), 0);
        CrierWeeks z = CHECK.told("c10,1;z9,1;n0,10,0;");
        CHECK.due("not in the first WEEK", z.drawn(1, 9, 0), 0);
        CHECK.due("in the second", z.drawn(2, 9, 0), 1);
        CHECK.due("the HILL", z.drawn(2, 9, 1), 10);
        CHECK.due("not again", z.drawn(3, 9, 1), 20);
    }

    private static void kindsAndAsks() {
        CHECK.of("KINDS: 0 SPEECH; 1 NOTICE, a SPEECH; 2 BIRTH, a NOTICE; 3 STAMMER, a NOTICE; 4 WHISPER, a SPEECH; 5 ECHO, a WHISPER");
        CrierWeeks x = CHECK.told("c60,9;z99,0;n0,30,0;b0,30,1;s0,30,2;w0,30,3;e0,30,4;n0,1,5;");
        String[] is = {"110000", "111000", "110100", "100010", "100011", "110000"};
        for (int s = 0; s < 6; s++) {
            for (int k = 0; k < 6; k++) {
                CHECK.due("as " + s + ", " + k, x.as(s, k), is[s].charAt(k) == '1' ? s : Check.KIND);
            }
        }
        CHECK.of("BODIES, each of which leaves its number in THE TRACE as it begins");
        int[][] size = {{39, 11, 10, 21, 20}, {-50, 12, 11, 10, 24, 21, 20}, {-959, 11, 10, 22, 21, 20},
            {-70, 13, 10}, {-140, 14, 13, 10}, {15, 11, 10, 21, 20}};
        int[][] mark = {{9, 21, 20}, {20, 24, 21, 20}, {-989, 22, 21, 20}, {73, 23, 20, 13, 10},
            {144, 23, 20, 14, 13, 10}, {14, 21, 20}};
        for (int s = 0; s < 6; s++) {
            asked(x, s, 0, size[s]);
            asked(x, s, 1, mark[s]);
        }
        CHECK.of("21: what 20 gives, and PRICE (as it is now)");
        x.price(1);
        asked(x, 0, 0, 31, 11, 10, 21, 20);
        asked(x, 5, 1, 6, 21, 20);
    }

    private static void sixSpeeches() {
        CHECK.of("SPEECHES 0 .. 5, 6 at most (all that goes through them, with 6 and 5 PEOPLE)");
        CrierWeeks x = CHECK.told("c60,1;" + PEOPLE[5] + "n0,1,0;b1,3,0;s2,2,2;w3,1,0;e4,1,3;n4,5,5;");
        shares(x, 12, 1, 2, 4, 0, 5);
        mostIs("all six", x, 63, 12, 2);
        orderIs("all six", x, 0, 0, 1, 2, 3, 4, 5);
        CHECK.due("drawn", x.drawn(60, 1, 0), 63);
        for (int s = 0; s < 6; s++) {
            CHECK.due("can " + s, x.speech(s, 5), 1);
            CHECK.due("said", x.say(s) >= 0 ? 1 : 0, 1);
        }
        CHECK.due("SAID", x.stand(4), 63);
        int[] known = {63 - 8, 63 - 8 - 16, 63 - 16, 63, 63};
        int[] understood = {63 - 8 - 16, 63 - 8 - 16, 63 - 16, 63, 63};
        for (int p = 0; p < 5; p++) {
            CHECK.due("KNOWN to " + p, x.person(p, 3), known[p]);
            CHECK.due("UNDERSTOOD by " + p, x.person(p, 4), understood[p]);
        }
        CHECK.due("CLEAR", x.clear(), 63 - 8 - 16);
        shares(x, 12, 0, 0, 0, 0, 0);
        x.weeks(1);
        CHECK.due("CLEAR behind a WEEK", x.clear(), 63);
        CHECK.due("KNOWN behind a WEEK", x.person(1, 3), 63);
    }

    private static void fewerThanBefore() {
        CHECK.of("A DUCHY that is read stands in place of the one before (of its SPEECHES and PEOPLE none is left)");
        CrierWeeks x = CHECK.told("c60,1;" + PEOPLE[5] + "n0,1,0;b1,3,0;s2,2,2;w3,1,0;e4,1,3;n0,5,5;");
        x.buy(1, 7);
        for (int s = 0; s < 6; s++) {
            x.say(s);
        }
        CHECK.due("read", Check.read(x, "c10,1;z20,0;z20,0;n1,4,0;"), 1);
        shares(x, 9, 0, 9);
        mostIs("one", x, 1, 4, 2);
        orderIs("one", x, 0, 0);
        CHECK.due("KNOWN", x.person(0, 3), 0);
        CHECK.due("CLEAR", x.clear(), 0);
        CHECK.due("drawn", x.drawn(60, 1, 0), 1);
        CHECK.due("say", x.say(0), 4);
        CHECK.due("KNOWN to two", x.speech(0, 6), 3);
        CHECK.due("CLEAR", x.clear(), 1);
        CHECK.due("UNDERSTOOD", x.person(1, 4), 1);
        shares(x, 9, 0, 0);
        mostIs("none", x, 0, 0, 2);
        orderIs("none", x, 0);
    }

    /** What is due, then THE TRACE. */
    private static void asked(CrierWeeks x, int one, int what, int... due) {
        CHECK.due("ask " + one + ", " + what, x.ask(one, what), due[0]);
        for (int i = 1; i < due.length; i++) {
            CHECK.due("trace " + (i - 1) + " of " + one + ", " + what, x.trace(i - 1), due[i]);
        }
        CHECK.due("the end of the trace", x.trace(due.length - 1), Check.NONE);
    }
}
