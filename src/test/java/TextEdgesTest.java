/** The edges that the document names of THE TAPE, of texts and of FAULTS: each sentence by a test of its own. */
public final class TextEdgesTest {
    private static final Check CHECK = new Check("text edges");
    /** As long as a text gets without a figure 0 ahead of a NUMBER's own. */
    private static final String LAW = "c60,9;", PEOPLE = "z99,20;z99,20;z99,20;z99,20;z99,20;";
    private static final String[] SPEECHES = {
        "n04,30,00;", "b03,30,01;", "s02,30,02;", "w01,30,03;", "e00,30,04;", "n04,30,05;"};
    private static final String SMALL = "c5,5;z5,5;n0,5,0;";

    public static void main(String[] args) {
        tapeIsFull();
        tapeTakesBytes();
        tapeIsEmptyThen();
        everyByteInEachPlace();
        threeFigures();
        emptyAndTooFew();
        theEnd();
        lawNumbers();
        personNumbers();
        speechNumbers();
        noRoom();
        leastOfOneToken();
        firstToken();
        latestFault();
        inPlaceOfTheOneBefore();
        allStays();
        CHECK.end();
    }

    private static String allSpeeches() {
        return String.join("", SPEECHES);
    }

    private static void tapeIsFull() {
        CHECK.of("THE TAPE has at most 120 bytes; feed: FULL");
        CrierWeeks x = new CrierWeeks();
        Check.feed(x, LAW + PEOPLE + allSpeeches());
        for (int i = 102; i <= 120; i++) {
            CHECK.due("feed " + i, x.feed('#'), i);
        }
        CHECK.due("feed 121", x.feed('c'), Check.FULL);
        CHECK.due("feed 122", x.feed('c'), Check.FULL);
        CHECK.due("bytes", x.count(7), 120);
        CHECK.due("BAD ahead of FULL", x.feed(256), Check.BAD);
        CHECK.due("BAD ahead of FULL", x.feed(-1), Check.BAD);
        CHECK.due("what is refused is not on the tape", x.duchy(), Check.FAULT - 101);
        CHECK.due("there is room again", x.feed('c'), 1);
    }

    private static void tapeTakesBytes() {
        CHECK.of("feed: a byte (0 to 255) comes behind the tape: how many it has. BAD");
        CHECK.bounds("feed", 0, 255, v -> new CrierWeeks().feed(v));
        CrierWeeks x = new CrierWeeks();
        CHECK.due("0", x.feed(0), 1);
        CHECK.due("255", x.feed(255), 2);
        CHECK.due("256", x.feed(256), Check.BAD);
        CHECK.due("99 and 256 is no c", x.feed(99 + 256), Check.BAD);
        CHECK.due("-1", x.feed(-1), Check.BAD);
        CHECK.due("bytes", x.count(7), 2);
    }

    private static void tapeIsEmptyThen() {
        CHECK.of("duchy: the tape, empty then, is read");
        CrierWeeks x = new CrierWeeks();
        CHECK.due("an empty tape", x.duchy(), Check.FAULT);
        CHECK.due("its fault", x.fault(), 1);
        CHECK.due("read", Check.read(x, SMALL), 1);
        CHECK.due("bytes", x.count(7), 0);
        CHECK.due("empty again", x.duchy(), Check.FAULT);
        CHECK.due("with a FAULT", Check.read(x, "c5,5;z5,5;n0,5,0;#"), Check.FAULT - 17);
        CHECK.due("bytes", x.count(7), 0);
        CHECK.due("a shorter one behind a longer one", Check.read(x, "c5,5;z5,5;"), Check.FAULT - 10);
        CHECK.due("120 figures", Check.read(x, "9".repeat(120)), Check.FAULT);
        CHECK.due("a figure at the end, others were behind it", Check.read(x, "c5"), Check.FAULT - 2);
        CHECK.due("two figures at the end, others were behind them", Check.read(x, "c55"), Check.FAULT - 3);
        CHECK.due("empty again", x.duchy(), Check.FAULT);
    }

    /** What is due of a text, by the one byte of it that is not the same in all. */
    private interface Due {
        /** SPEECHES that are read; else 0 less 10 times the FAULT's place, less its number. */
        int of(int letter);
    }

    private static void eachByte(String ahead, String behind, Due due) {
        for (int letter = 0; letter < 256; letter++) {
            CrierWeeks x = new CrierWeeks();
            Check.feed(x, ahead);
            x.feed(letter);
            Check.feed(x, behind);
            int want = due.of(letter);
            String call = "duchy of " + ahead + "[" + letter + "]" + behind;
            CHECK.due(call, x.duchy(), want > 0 ? want : Check.FAULT - -want / 10);
            CHECK.due("fault, " + call, x.fault(), want > 0 ? 0 : -want % 10);
        }
    }

    private static boolean figure(int letter) {
        return letter >= 48 && letter <= 57;
    }

    private static boolean sort(int letter) {
        return letter == 'n' || letter == 'b' || letter == 's' || letter == 'w' || letter == 'e';
    }

    private static void everyByteInEachPlace() {
        CHECK.of("TOKENS: letters a to z (each by itself), NUMBERS (figures, 2 at most), SIGNS , and ; nothing else");
        eachByte("", "5,5;z5,5;n0,5,0;", c -> c == 'c' ? 1 : -1);
        eachByte("c", ",5;z5,5;n0,5,0;", c -> c == '0' ? -12 : figure(c) ? 1 : -11);
        eachByte("c1", ",5;z5,5;n0,5,0;", c -> figure(c) ? 1 : c == ',' ? -31 : -21);
        eachByte("c5", "5;z5,5;n0,5,0;", c -> c == ',' ? 1 : figure(c) ? -11 : -21);
        eachByte("c5,5", "z5,5;n0,5,0;", c -> c == ';' ? 1 : figure(c) ? -32 : -41);
        eachByte("c5,5;", "5,5;n0,5,0;", c -> c == 'z' ? 1 : -51);
        eachByte("c5,5;z5", "5;n0,5,0;", c -> c == ',' ? 1 : figure(c) ? -61 : -71);
        eachByte("c5,5;z5,5", "n0,5,0;", c -> c == ';' ? 1 : figure(c) ? -82 : -91);
        eachByte("c5,5;z5,5;", "0,5,0;", c -> sort(c) ? 1 : c == 'z' ? -141 : -101);
        eachByte("c5,5;z5,5;n0,5", "0;", c -> c == ',' ? 1 : figure(c) ? -131 : -141);
        eachByte("c5,5;z5,5;n0,5,0", "", c -> c == ';' ? 1 : c == '0' ? -171 : figure(c) ? -152 : -161);
        eachByte(SMALL, "", c -> sort(c) ? -181 : -171);
        eachByte(SMALL, "0,5,1;", c -> sort(c) ? 2 : -171);
        CHECK.of("letters (each by itself)");
        CHECK.faulty("cc5,5;z5,5;n0,5,0;", 1, 1);
        CHECK.faulty("c5,5;zz5,5;n0,5,0;", 1, 6);
        CHECK.faulty("c5,5;z5,5;nb0,5,0;", 1, 11);
    }

    private static void threeFigures() {
        CHECK.of("NUMBERS (2 figures at most); 1: a run of three figures, at its first");
        for (String run : new String[] {"000", "001", "100", "999", "0000", "0001", "1234567890"}) {
            CHECK.faulty("c" + run + ",5;z5,5;n0,5,0;", 1, 1);
            CHECK.faulty("c5," + run + ";z5,5;n0,5,0;", 1, 3);
            CHECK.faulty("c5,5;z" + run + ",5;n0,5,0;", 1, 6);
            CHECK.faulty("c5,5;z5," + run + ";n0,5,0;", 1, 8);
            CHECK.faulty("c5,5;z5,5;n" + run + ",5,0;", 1, 11);
            CHECK.faulty("c5,5;z5,5;n0," + run + ",0;", 1, 13);
            CHECK.faulty("c5,5;z5,5;n0,5," + run + ";", 1, 15);
            CHECK.faulty("c" + run, 1, 1);
            CHECK.faulty(run, 1, 0);
            CHECK.faulty(SMALL + run, 1, 17);
        }
        CHECK.of("two figures are a NUMBER, with a 0 ahead too");
        CHECK.reads("c05,09;z00,00;n00,01,00;", 1);
        CHECK.faulty("c00,5;z5,5;n0,5,0;", 2, 1);
        CHECK.faulty("c5,00;z5,5;n0,5,0;", 2, 3);
    }

    private static void emptyAndTooFew() {
        CHECK.of("duchy: law person { person } speech { speech }");
        CHECK.faulty("", 1, 0);
        CHECK.faulty("z5,5;n0,5,0;", 1, 0);
        CHECK.faulty("c5,5;n0,5,0;", 1, 5);
        CHECK.faulty("c5,5;", 1, 5);
        CHECK.faulty("c5,5;z5,5;", 1, 10);
        CHECK.faulty("c5,5;c5,5;z5,5;n0,5,0;", 1, 5);
        CHECK.faulty("c5,5;z5,5;c5,5;", 1, 10);
        CHECK.faulty(SMALL + "z5,5;", 1, 17);
        CHECK.faulty(SMALL + "c5,5;", 1, 17);
        CHECK.faulty(SMALL + SMALL, 1, 17);
        CHECK.faulty(";", 1, 0);
        CHECK.faulty("c,5;z5,5;n0,5,0;", 1, 1);
        CHECK.faulty("c5,;z5,5;n0,5,0;", 1, 3);
        CHECK.faulty("c5;z5,5;n0,5,0;", 1, 2);
        CHECK.faulty("c5,5;z;n0,5,0;", 1, 6);
        CHECK.faulty("c5,5;z5,5;n0,5;", 1, 14);
        CHECK.faulty("c5,5,5;z5,5;n0,5,0;", 1, 4);
        CHECK.faulty("c5,5;z5,5,5;n0,5,0;", 1, 9);
        CHECK.faulty("c5,5;z5,5;n0,5,0,0;", 1, 16);
        CHECK.faulty("c5,5;;z5,5;n0,5,0;", 1, 5);
    }

    private static void theEnd() {
        CHECK.of("1: it cannot stand there, or is none (the end: how many bytes there are)");
        String text = LAW + PEOPLE + allSpeeches();
        for (int n = 0; n < text.length(); n++) {
            int told = (n - 41) / 10;
            if (n > 41 && (n - 41) % 10 == 0) {
                CHECK.reads(text.substring(0, n), told);
            } else {
                CHECK.faulty(text.substring(0, n), 1, n);
            }
        }
        CHECK.reads(text, 6);
    }

    private static void lawNumbers() {
        CHECK.of("law: c RATION , PRICE ; (1 to 60 words a WEEK; 1 to 9)");
        for (int v = 0; v < 100; v++) {
            String text = "c" + v + ",5;z5,5;n0,5,0;";
            if (v >= 1 && v <= 60) {
                CrierWeeks x = CHECK.told(text);
                CHECK.due("RATION", x.stand(3), v);
                CHECK.due("LEFT", x.stand(0), v);
            } else {
                CHECK.faulty(text, 2, 1);
            }
            text = "c5," + v + ";z5,5;n0,5,0;";
            if (v >= 1 && v <= 9) {
                CHECK.due("PRICE", CHECK.told(text).stand(2), v);
            } else {
                CHECK.faulty(text, 2, 3);
            }
        }
    }

    private static void personNumbers() {
        CHECK.of("person: z PURSE , INCOME ; (0 to 99; 0 to 20)");
        for (int v = 0; v < 100; v++) {
            CHECK.due("PURSE", CHECK.told("c5,5;z" + v + ",5;n0,5,0;").person(0, 0), v);
            String text = "c5,5;z5," + v + ";n0,5,0;";
            if (v <= 20) {
                CHECK.due("INCOME", CHECK.told(text).person(0, 1), v);
            } else {
                CHECK.faulty(text, 2, 8);
            }
        }
        CHECK.faulty("c5,5;z100,5;n0,5,0;", 1, 6);
    }

    private static void speechNumbers() {
        CHECK.of("speech: SORT WHO , LENGTH , NEEDS ; (a PERSON; 1 to 30)");
        for (int v = 0; v < 100; v++) {
            String text = "c5,5;z5,5;n0," + v + ",0;";
            if (v >= 1 && v <= 30) {
                CHECK.due("LENGTH", CHECK.told(text).speech(0, 1), v);
            } else {
                CHECK.faulty(text, 2, 13);
            }
        }
        StringBuilder people = new StringBuilder("c5,5;");
        for (int many = 1; many <= 5; many++) {
            people.append("z5,5;");
            for (int v = 0; v < 100; v++) {
                String text = people + "n" + v + ",5,0;";
                if (v < many) {
                    CHECK.due("WHO of " + many, CHECK.told(text).speech(0, 0), v);
                } else {
                    CHECK.faulty(text, 2, people.length() + 1);
                }
            }
        }
        needs();
    }

    private static void needs() {
        CHECK.of("NEEDS: a SPEECH told ahead of it, or its own number: none");
        StringBuilder ahead = new StringBuilder("c5,5;z5,5;");
        for (int own = 0; own < 6; own++) {
            for (int v = 0; v < 100; v++) {
                String text = ahead + "n0,5," + v + ";";
                if (v <= own) {
                    CHECK.due("NEEDS of " + own, CHECK.told(text).speech(own, 2), v == own ? Check.NONE : v);
                } else {
                    CHECK.faulty(text, 2, ahead.length() + 5);
                }
            }
            ahead.append("n0,5,0;");
        }
        CHECK.of("NEEDS: a SPEECH told ahead of it (none behind it, though it is told)");
        CHECK.faulty("c5,5;z5,5;n0,5,1;n0,5,1;", 2, 15);
    }

    private static void noRoom() {
        CHECK.of("PEOPLE 0 .. 4, 5 at most; 3: a person more than there is room for (its letter)");
        CHECK.reads("c5,5;z1,1;z1,1;z1,1;z1,1;z1,1;n4,5,0;", 1);
        CHECK.faulty("c5,5;z1,1;z1,1;z1,1;z1,1;z1,1;z1,1;n4,5,0;", 3, 30);
        CHECK.faulty("c5,5;z1,1;z1,1;z1,1;z1,1;z1,1;z", 3, 30);
        CHECK.faulty("c5,5;z1,1;z1,1;z1,1;z1,1;z1,1;z1,99;", 3, 30);
        CHECK.of("SPEECHES 0 .. 5, 6 at most; 3: a speech more than there is room for (its letter)");
        String six = "c5,5;z1,1;n0,5,0;b0,5,0;s0,5,0;w0,5,0;e0,5,0;n0,5,0;";
        CHECK.reads(six, 6);
        for (char sort : "nbswe".toCharArray()) {
            CHECK.faulty(six + sort + "0,5,0;", 3, 52);
            CHECK.faulty(six + sort, 3, 52);
            CHECK.faulty(six + sort + "9,99,99;", 3, 52);
        }
        CHECK.of("1: it cannot stand there, though there is no room for a speech either");
        CHECK.faulty(six + "z1,1;", 1, 52);
        CHECK.faulty(six + "5", 1, 52);
        CHECK.faulty(six + "x", 1, 52);
        CHECK.faulty(six + ";", 1, 52);
    }

    private static void leastOfOneToken() {
        CHECK.of("FAULTS: of one TOKEN the least");
        CHECK.faulty("99", 1, 0);
        CHECK.faulty("c5,5;99", 1, 5);
        CHECK.faulty("c5,5;z5,5;99", 1, 10);
        CHECK.faulty("c999,5;z5,5;n0,5,0;", 1, 1);
        CHECK.faulty("c5,5;z5,5;n999,5,0;", 1, 11);
        CHECK.faulty("c5 61,5;z5,5;n0,5,0;", 1, 2);
    }

    private static void firstToken() {
        CHECK.of("FAULTS, the first TOKEN that has one (its first byte)");
        CHECK.faulty("c61,10;z5,99;n9,99,9;", 2, 1);
        CHECK.faulty("c60,10;z5,99;n9,99,9;", 2, 4);
        CHECK.faulty("c60,09;z5,99;n9,99,9;", 2, 10);
        CHECK.faulty("c60,09;z5,20;n9,99,9;", 2, 14);
        CHECK.faulty("c60,09;z5,20;n0,99,9;", 2, 16);
        CHECK.faulty("c60,09;z5,20;n0,30,9;", 2, 19);
        CHECK.faulty("c61,5;z5,5;n0,5,0;#", 2, 1);
        CHECK.faulty("c61 999", 2, 1);
        CHECK.faulty("c1 ,61;", 1, 2);
        CHECK.faulty("c5,5;z5,5;n0,31,999;", 2, 13);
    }

    private static void latestFault() {
        CHECK.of("fault: the number of the latest FAULT; 0 before one");
        CrierWeeks x = new CrierWeeks();
        CHECK.due("before one", x.fault(), 0);
        Check.read(x, SMALL);
        CHECK.due("read, before one", x.fault(), 0);
        Check.read(x, "c61,5;");
        CHECK.due("2", x.fault(), 2);
        CHECK.due("asked again", x.fault(), 2);
        Check.read(x, "c5,5;z1,1;z1,1;z1,1;z1,1;z1,1;z");
        CHECK.due("3", x.fault(), 3);
        Check.read(x, SMALL);
        CHECK.due("read, behind one", x.fault(), 3);
        x.feed(256);
        x.say(9);
        CHECK.due("a refusal is none", x.fault(), 3);
        Check.read(x, "#");
        CHECK.due("1", x.fault(), 1);
    }

    private static void inPlaceOfTheOneBefore() {
        CHECK.of("A DUCHY that is read stands in place of the one before (none at first): "
            + "WEEK 0, LEFT is RATION, the HILL has 0, nothing is BANKED, SAID; no ACT can be undone");
        CrierWeeks x = CHECK.told("c20,2;z40,3;z9,1;z99,0;n0,9,0;w1,5,0;n2,2,2;");
        x.say(0);
        x.say(1);
        x.buy(2, 3);
        x.weeks(3);
        x.letOut(5);
        x.price(7);
        x.buy(0, 1);
        CHECK.due("read", Check.read(x, "c30,4;z50,2;z8,1;b1,9,0;w0,5,0;"), 2);
        int[] counts = {0, 2, 2, 0, 30, 0, 0, 0};
        for (int w = 0; w < counts.length; w++) {
            CHECK.due("count " + w, x.count(w), counts[w]);
        }
        int[] stands = {30, 0, 4, 30, 0};
        for (int w = 0; w < stands.length; w++) {
            CHECK.due("stand " + w, x.stand(w), stands[w]);
        }
        int[][] people = {{50, 2, 0, 0, 0}, {8, 1, 0, 0, 0}};
        for (int p = 0; p < 2; p++) {
            for (int w = 0; w < 5; w++) {
                CHECK.due("person " + p + ", " + w, x.person(p, w), people[p][w]);
            }
        }
        for (int s = 0; s < 2; s++) {
            for (int w = 6; w < 9; w++) {
                CHECK.due("speech " + s + ", " + w, x.speech(s, w), 0);
            }
            CHECK.due("known ahead", x.known(s, 60), 0);
        }
        CHECK.due("no person 2", x.person(2, 0), Check.BAD);
        CHECK.due("no speech 2", x.speech(2, 0), Check.BAD);
        CHECK.due("undo", x.undo(), Check.STATE);
        CHECK.due("what it NEEDS", x.speech(1, 2), 0);
        CHECK.due("its kind", x.kind(0), 2);
    }

    private static void allStays() {
        CHECK.of("duchy: a FAULT: all stays");
        CrierWeeks x = CHECK.told("c20,2;z40,3;z9,1;n0,9,0;w1,5,0;");
        x.say(1);
        x.buy(0, 3);
        x.weeks(1);
        x.ask(1, 1);
        x.set(0, 0, 0);
        x.image(0);
        CHECK.due("a text with a FAULT at its end", Check.read(x, "c9,9;z1,0;n0,1,0;b0,1,1;n0,1,3;"), Check.FAULT - 29);
        int[] counts = {0, 2, 2, 1, 20, 17, 3, 0};
        for (int w = 0; w < counts.length; w++) {
            CHECK.due("count " + w, x.count(w), counts[w]);
        }
        CHECK.due("PRICE", x.stand(2), 2);
        CHECK.due("RATION", x.stand(3), 20);
        CHECK.due("SAID", x.stand(4), 2);
        CHECK.due("PURSE", x.person(0, 0), 37);
        CHECK.due("INCOME", x.person(1, 1), 1);
        CHECK.due("BANKED", x.person(0, 2), 3);
        CHECK.due("KNOWN", x.speech(1, 6), 3);
        CHECK.due("kinds", x.kind(1), 4);
        CHECK.due("THE TRACE", x.trace(0), 23);
        CHECK.due("status", x.status(), 1);
        CHECK.due("undo", x.undo(), 2);
        CHECK.due("WEEK", x.count(3), 0);
        CHECK.due("the IMAGE", x.restore(0), 1);
        CHECK.due("its WEEK", x.count(3), 1);
        CrierWeeks none = new CrierWeeks();
        CHECK.due("none at first", Check.read(none, "c9,9;z1,0;n0,1,0;#"), Check.FAULT - 17);
        CHECK.due("none then", none.stand(0), Check.STATE);
        for (int w = 0; w < 8; w++) {
            CHECK.due("count " + w, none.count(w), 0);
        }
    }
}
