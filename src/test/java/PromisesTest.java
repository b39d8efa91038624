/** Each promise of the document by itself: ordinary inputs, the edges it names, wrong inputs. */
public final class PromisesTest {
    private static final int NONE = -1000000, BAD = -1000001, STATE = -1000002, FULL = -1000003;
    private static final int NULL = -1000011, PLACE = -1000012, KIND = -1000013, SIZE = -1000014, STORE = -1000015;
    private static final int[] WRONG = {-1, Integer.MIN_VALUE, Integer.MAX_VALUE};

    /** Speeches: 0 notice, 1 birth that needs 0, 2 stammer, 3 whisper that needs 1, 4 echo that needs 3. */
    private static final String FIVE = "c20,2;z40,3;z9,1;z99,0;z15,5;z0,20;n0,9,0;b2,15,0;s1,6,2;w3,4,1;e4,30,3;";
    /** Five people; 0 a whisper of 0, 1 an echo of 2, 2 a notice of 1. */
    private static final String WHISPERS = "c10,1;z50,0;z50,0;z50,0;z50,0;z50,0;w0,3,0;e2,4,0;n1,5,2;";

    private static int wrong;

    public static void main(String[] args) {
        rows();
        copies();
        tape();
        texts();
        acts();
        undoing();
        asked();
        saying();
        foretold();
        mostAndOrder();
        deafness();
        shares();
        rowCalls();
        draws();
        images();
        kinds();
        counts();
        statuses();
        noDuchy();
        System.out.println(wrong == 0 ? "promises: all answers are as due" : "promises: " + wrong + " wrong");
        if (wrong != 0) {
            System.exit(1);
        }
    }

    private static void due(String call, long got, long want) {
        if (got != want) {
            wrong++;
            System.out.println(call + " answered " + got + ", due is " + want);
        }
    }

    private static void feedAll(CrierWeeks x, String text) {
        for (int i = 0; i < text.length(); i++) {
            due("feed at " + i + " of " + text, x.feed(text.charAt(i)), i + 1);
        }
    }

    private static CrierWeeks told(String text, int speeches) {
        CrierWeeks x = new CrierWeeks();
        feedAll(x, text);
        due("duchy of " + text, x.duchy(), speeches);
        return x;
    }

    private static void rowOf(CrierWeeks x, int row, int lane, int... items) {
        due("row", x.row(row, lane, items.length), items.length);
        for (int i = 0; i < items.length; i++) {
            due("set", x.set(row, i, items[i]), items[i]);
        }
    }

    /** Promises 2, 3, 5. */
    private static void rows() {
        CrierWeeks x = new CrierWeeks();
        due("row 40", x.row(7, 2, 40), 40);
        due("row 0", x.row(0, 0, 0), 0);
        due("row 41", x.row(0, 0, 41), BAD);
        due("row -1", x.row(0, 0, -1), SIZE);
        due("row least", x.row(0, 0, Integer.MIN_VALUE), SIZE);
        due("lane 3", x.row(0, 3, -1), BAD);
        due("lane -1", x.row(0, -1, 1), BAD);
        due("row 8", x.row(8, 0, 1), BAD);
        due("set of an empty row", x.set(0, 0, 1), PLACE);
        due("set -1", x.set(7, -1, 1), PLACE);
        due("set 40", x.set(7, 40, 1), PLACE);
        due("set most", x.set(7, Integer.MAX_VALUE, 1), PLACE);
        due("set missing", x.set(1, 0, 1), NULL);
        due("set row 8", x.set(8, 0, 1), BAD);
        due("int", x.set(7, 39, Integer.MIN_VALUE), Integer.MIN_VALUE);
        x.row(1, 0, 2);
        due("byte 127", x.set(1, 0, 127), 127);
        due("byte 128", x.set(1, 0, 128), -128);
        due("byte 256", x.set(1, 1, 256), 0);
        x.row(2, 1, 2);
        due("short", x.set(2, 0, 32768), -32768);
        due("short -1", x.set(2, 1, 65535), -1);
        due("row in place", x.row(7, 0, 3), 3);
        due("drop", x.drop(7), 3);
        due("dropped", x.drop(7), NULL);
        due("drop of none", x.drop(0), 0);
        for (int w : WRONG) {
            due("drop wrong", x.drop(w), BAD);
            due("set wrong", x.set(w, 0, 0), BAD);
            due("row wrong", x.row(w, 0, 0), BAD);
            due("lane wrong", x.row(0, w, 0), BAD);
        }
    }

    /** Promise 4; ITEMS are read back by priced. */
    private static void copies() {
        CrierWeeks x = new CrierWeeks();
        rowOf(x, 0, 0, 1, 2, 3, 4, 5);
        rowOf(x, 1, 0, 1, 1, 1);
        rowOf(x, 2, 1, 1, 1, 1);
        due("overlap", x.copy(0, 0, 0, 1, 4), 4);
        due("item 1", x.priced(0, 1, 1, 0, 1), 1);
        due("item 2", x.priced(0, 2, 1, 0, 1), 2);
        due("item 4", x.priced(0, 4, 1, 0, 1), 4);
        due("other", x.copy(0, 3, 1, 1, 2), 2);
        due("copied", x.priced(1, 2, 2, 0, 1), 4);
        due("stays", x.priced(1, 0, 2, 0, 1), 1);
        due("none at the end", x.copy(0, 5, 1, 3, 0), 0);
        due("beyond a", x.copy(0, 4, 1, 0, 2), PLACE);
        due("beyond b", x.copy(0, 0, 1, 2, 2), PLACE);
        due("i above", x.copy(0, 6, 1, 0, 0), PLACE);
        due("n below", x.copy(0, 0, 1, 0, -1), PLACE);
        due("i below", x.copy(0, -1, 1, 0, 1), PLACE);
        due("j below", x.copy(0, 0, 1, -1, 1), PLACE);
        due("n most", x.copy(0, 1, 1, 1, Integer.MAX_VALUE), PLACE);
        due("i most", x.copy(0, Integer.MAX_VALUE, 1, 0, Integer.MAX_VALUE), PLACE);
        due("store ahead of place", x.copy(0, -1, 2, 0, -1), STORE);
        due("null ahead of store", x.copy(0, 0, 3, 0, 1), NULL);
        due("null a", x.copy(3, 0, 0, 0, 1), NULL);
        due("bad a", x.copy(8, 0, 3, 0, 1), BAD);
        due("bad b", x.copy(3, 0, -1, 0, 1), BAD);
    }

    /** Promise 6. */
    private static void tape() {
        CrierWeeks x = new CrierWeeks();
        due("least", x.feed(0), 1);
        due("most", x.feed(255), 2);
        due("below", x.feed(-1), BAD);
        due("above", x.feed(256), BAD);
        for (int i = 3; i <= 120; i++) {
            due("feed", x.feed('9'), i);
        }
        due("full", x.feed('9'), FULL);
        due("bad ahead of full", x.feed(256), BAD);
        due("bytes", x.count(7), 120);
        due("no token", x.duchy(), -1000100);
        due("empty then", x.count(7), 0);
    }

    private static void faulty(String text, int fault, int place) {
        CrierWeeks x = told("c5,5;z5,5;n0,5,0;", 1);
        due("no fault yet", x.fault(), 0);
        feedAll(x, text);
        due("duchy of " + text, x.duchy(), -1000100 - place);
        due("fault of " + text, x.fault(), fault);
        due("stays, " + text, x.stand(3), 5);
        due("empty, " + text, x.count(7), 0);
        feedAll(x, "c6,5;z5,5;n0,5,0;");
        due("again", x.duchy(), 1);
        due("fault stays", x.fault(), fault);
        due("ration", x.stand(3), 6);
    }

    /** Promises 7, 8. */
    private static void texts() {
        faulty("", 1, 0);
        faulty("z1,1;", 1, 0);
        faulty("c", 1, 1);
        faulty("c0,1;", 2, 1);
        faulty("c61,1;", 2, 1);
        faulty("c100,1;", 1, 1);
        faulty("c1;1;", 1, 2);
        faulty("c1,10;", 2, 3);
        faulty("c1,0", 2, 3);
        faulty("c1,1,", 1, 4);
        faulty("c1,1;n", 1, 5);
        faulty("c1,1;z99,21;", 2, 9);
        faulty("c1,1;z0,0;c", 1, 10);
        faulty("c1,1;z0,0;Z", 1, 10);
        faulty("c1,1;z0,0; n0,1,0;", 1, 10);
        faulty("c1,1;z0,0;x0,1,0;", 1, 10);
        faulty("c1,1;z0,0;n1,1,0;", 2, 11);
        faulty("c1,1;z0,0;n0,31,0;", 2, 13);
        faulty("c1,1;z0,0;n0,0,0;", 2, 13);
        faulty("c1,1;z0,0;n0,1,1;", 2, 15);
        faulty("c1,1;z0,0;n0,1,000;", 1, 15);
        faulty("c1,1;z0,0;n0,1,0", 1, 16);
        faulty("c1,1;z0,0;n0,1,0;z0,0;", 1, 17);
        faulty("c1,1;z0,0;n0,1,0;n0,1,2;", 2, 22);
        faulty("c1,1;z0,0;n0,1,0;;", 1, 17);
        faulty("c1,1;z0,0;z0,0;z0,0;z0,0;z0,0;z0,0;n0,1,0;", 3, 30);
        faulty("c1,1;z0,0;n0,1,0;n0,1,0;n0,1,0;n0,1,0;n0,1,0;n0,1,0;b", 3, 52);
        faulty("c1,1;z0,0;n0,1,0;n0,1,0;n0,1,0;n0,1,0;n0,1,0;n0,1,0;z", 1, 52);
        faulty("c1,1;z0,0;n0,1,0;" + (char) 233, 1, 17);

        CrierWeeks x = told("c05,09;z00,00;z99,20;n01,01,00;w0,30,1;", 2);
        due("ration", x.stand(3), 5);
        due("price", x.stand(2), 9);
        due("income", x.person(1, 1), 20);
        due("own number", x.speech(1, 2), NONE);
        feedAll(x, FIVE);
        due("told anew", x.duchy(), 5);
        due("people", x.count(1), 5);
    }

    /** Promises 10 to 14, 17. */
    private static void acts() {
        CrierWeeks x = told(FIVE, 5);
        due("weeks 0", x.weeks(0), BAD);
        due("weeks 25", x.weeks(25), BAD);
        due("say", x.say(0), 9);
        due("twice", x.say(0), STATE);
        due("left", x.stand(0), 11);
        due("purse", x.person(0, 0), 22);
        due("buy", x.buy(0, 3), 3);
        due("buy 12 of 8", x.buy(2, 12), STATE);
        due("buy beyond the purse", x.buy(1, 5), STATE);
        due("buy 4 of 9 crowns", x.buy(1, 4), 4);
        due("left then", x.stand(0), 4);
        due("purse then", x.person(1, 0), 1);
        due("buy 0", x.buy(0, 0), BAD);
        due("buy 61", x.buy(0, 61), BAD);
        due("buyer 5", x.buy(5, 1), BAD);
        due("a week", x.weeks(1), 4);
        due("two more", x.weeks(2), 44);
        due("purse 99 at most", x.person(2, 0), 99);
        due("purse 4", x.person(4, 0), 60);
        due("out 0", x.letOut(0), BAD);
        due("out 100", x.letOut(100), BAD);
        due("out 45", x.letOut(45), STATE);
        due("out 44", x.letOut(44), 64);
        due("hill", x.stand(1), 0);
        due("24 weeks", x.weeks(24), 64 + 23 * 20);
        due("hill is full", x.weeks(24), 999);
        due("out of the hill", x.letOut(79), 99);
        due("above 99", x.letOut(1), STATE);
        due("price", x.price(9), 2);
        due("price again", x.price(1), 9);
        due("price 0", x.price(0), BAD);
        due("price 10", x.price(10), BAD);
        due("bank 60", x.buy(2, 60), 60);
        due("bank 39", x.buy(2, 39), 99);
        CrierWeeks rich = told("c60,1;z99,20;n0,1,0;", 1);
        rich.buy(0, 60);
        rich.weeks(5);
        due("bank 99", rich.buy(0, 39), 99);
        due("there is more", rich.stand(0), 21);
        due("bank above 99", rich.buy(0, 1), STATE);
        due("the purse is full enough", rich.person(0, 0), 60);
        due("stand 5", x.stand(5), BAD);
        due("stand -1", x.stand(-1), BAD);
        due("said", x.stand(4), 1);
        fullWeeks();
    }

    private static void fullWeeks() {
        CrierWeeks x = told("c60,9;z0,0;n0,1,0;", 1);
        for (int i = 0; i < 41; i++) {
            x.weeks(24);
        }
        due("week 984", x.count(3), 984);
        due("week 1000", x.weeks(16), FULL);
        due("bad ahead of full", x.weeks(25), BAD);
        due("week 999", x.weeks(15), 999);
        due("no more", x.weeks(1), FULL);
        due("foretold though", x.hill(60), 999);
    }

    /** Promise 9. */
    private static void undoing() {
        CrierWeeks x = told(FIVE, 5);
        due("none", x.undo(), STATE);
        x.say(0);
        x.buy(2, 4);
        x.weeks(2);
        x.letOut(5);
        x.price(7);
        due("acts", x.count(6), 6);
        due("price", x.undo(), 5);
        due("price is", x.stand(2), 2);
        due("out", x.undo(), 4);
        due("hill", x.stand(1), 27);
        due("left", x.stand(0), 20);
        due("week", x.undo(), 3);
        due("week is", x.count(3), 1);
        due("week", x.undo(), 2);
        due("left ahead of it", x.stand(0), 7);
        due("bought", x.undo(), 1);
        due("banked", x.person(2, 2), 0);
        due("purse", x.person(2, 0), 99);
        due("said", x.undo(), 0);
        due("not said", x.speech(0, 8), 0);
        due("not known", x.speech(0, 6), 0);
        due("purse of 0", x.person(0, 0), 40);
        due("none is left", x.undo(), STATE);
        x.price(3);
        x.weeks(24);
        due("24 are kept", x.count(6), 24);
        for (int i = 23; i >= 0; i--) {
            due("week undone", x.undo(), i);
        }
        due("the oldest is forgotten", x.undo(), STATE);
        due("its price stays", x.stand(2), 3);
        x.weeks(20);
        x.weeks(10);
        for (int i = 0; i < 24; i++) {
            x.undo();
        }
        due("six weeks stay", x.count(3), 6);
        x.weeks(1);
        feedAll(x, FIVE);
        x.duchy();
        due("a new duchy", x.undo(), STATE);
        due("week 0", x.count(3), 0);
    }

    /** Promises 15, 16. */
    private static void asked() {
        CrierWeeks x = told(FIVE, 5);
        int[][] due = {
            {0, 9, NONE, 9, 18, 1, 0, 0, 0},
            {2, 15, 0, 8, 16, 1, 0, 0, 0},
            {1, 6, NONE, 12, 24, 0, 0, 0, 0},
            {3, 4, 1, 0, 1, 1, 0, 0, 0},
            {4, 30, 3, 0, 31, 0, 0, 0, 0},
        };
        for (int s = 0; s < 5; s++) {
            for (int w = 0; w < 9; w++) {
                due("speech " + s + ", " + w, x.speech(s, w), due[s][w]);
            }
            due("what 9", x.speech(s, 9), BAD);
            due("what -1", x.speech(s, -1), BAD);
        }
        due("speech 5", x.speech(5, 0), BAD);
        x.buy(2, 5);
        due("cost by what is banked", x.speech(1, 4), 6);
        x.buy(2, 9);
        due("all is banked", x.speech(1, 4), 0);
        due("purse", x.person(2, 0), 71);
        due("banked", x.person(2, 2), 14);
        due("income", x.person(3, 1), 5);
        due("person 5", x.person(5, 0), BAD);
        due("what 5", x.person(0, 5), BAD);
        due("what -1", x.person(0, -1), BAD);
    }

    /** Promises 11, 15, 16, 25: to whom, and who UNDERSTANDS. */
    private static void saying() {
        CrierWeeks x = told(FIVE, 5);
        x.buy(2, 6);
        due("birth", x.say(1), 2);
        due("banked is used first", x.person(2, 2), 0);
        due("the rest is paid", x.person(2, 0), 99 - 12 - 4);
        due("left", x.stand(0), 12);
        due("known to all", x.speech(1, 6), 31);
        due("understood by none", x.speech(1, 7), 0);
        due("none is clear", x.clear(), 0);
        due("whisper", x.say(3), 0);
        due("1 crown", x.person(3, 0), 14);
        due("to each side", x.speech(3, 6), 28);
        due("understood, as 1 is known", x.speech(3, 7), 28);
        due("0 knows", x.person(0, 3), 2);
        due("3 knows", x.person(3, 3), 10);
        due("3 understands", x.person(3, 4), 8);
        due("notice", x.say(0), 9);
        due("clear", x.clear(), 3);
        due("3 understands", x.person(3, 4), 11);
        due("the echo cannot be paid", x.say(4), STATE);
        x.weeks(1);
        due("whisper comes on", x.speech(3, 6), 31);
        due("20 crowns are not enough", x.say(4), STATE);
        x.weeks(1);
        due("echo", x.say(4), 0);
        due("31 crowns", x.person(4, 0), 9);
        due("round the ring", x.speech(4, 6), 25);
        due("clear but the echo", x.clear(), 11);
        x.weeks(1);
        due("clear", x.clear(), 27);
        for (int w : WRONG) {
            due("say wrong", x.say(w), BAD);
            due("speech wrong", x.speech(w, 0), BAD);
            due("person wrong", x.person(w, 0), BAD);
            due("stand wrong", x.stand(w), BAD);
        }
        CrierWeeks two = told("c1,1;z9,0;z9,0;w0,1,0;e1,1,0;", 2);
        two.say(0);
        due("a ring of two", two.speech(0, 6), 3);
        CrierWeeks one = told("c1,1;z9,0;w0,1,0;", 1);
        one.say(0);
        due("a ring of one", one.speech(0, 6), 1);
    }

    /** Promises 18 to 22. */
    private static void foretold() {
        CrierWeeks x = told(FIVE, 5);
        due("purse now", x.purse(0, 0), 40);
        due("purse 5", x.purse(0, 5), 55);
        due("purse 19", x.purse(0, 19), 97);
        due("purse 20", x.purse(0, 20), 99);
        due("purse 60", x.purse(0, 60), 99);
        due("purse 61", x.purse(0, 61), BAD);
        due("purse -1", x.purse(0, -1), BAD);
        due("purse of 5", x.purse(5, 0), BAD);
        x.say(0);
        due("hill now", x.hill(0), 0);
        due("hill 1", x.hill(1), 11);
        due("hill 3", x.hill(3), 51);
        due("hill 50", x.hill(50), 991);
        due("hill 51", x.hill(51), 999);
        due("hill 61", x.hill(61), BAD);
        due("hill -1", x.hill(-1), BAD);
        due("when said", x.when(0), STATE);
        due("when", x.when(1), 0);
        due("when 24 crowns", x.when(2), 15);
        due("when 31 crowns", x.when(4), 2);
        due("when 5", x.when(5), BAD);
        due("nothing has changed", x.count(3), 0);

        CrierWeeks y = told("c10,1;z50,0;z50,0;z50,0;z50,0;z50,0;w0,3,0;e2,4,0;s1,6,2;n3,10,0;", 4);
        due("not said", y.known(0, 60), 0);
        due("not said", y.allKnow(0), NONE);
        due("12 words in a week of 10", y.when(2), NONE);
        y.buy(1, 1);
        due("11 of 9 left", y.when(2), NONE);
        due("10 of 9 left", y.when(3), 1);
        y.buy(1, 1);
        due("10 of 8 left", y.when(2), 1);
        y.say(0);
        due("whisper", y.known(0, 0), 19);
        due("whisper 1", y.known(0, 1), 31);
        due("all know", y.allKnow(0), 1);
        y.say(1);
        due("echo", y.known(1, 0), 14);
        due("echo 1", y.known(1, 1), 31);
        y.weeks(1);
        due("all know now", y.allKnow(0), 0);
        y.say(2);
        due("notice", y.allKnow(2), 0);
        due("known 61", y.known(0, 61), BAD);
        due("known -1", y.known(0, -1), BAD);
        due("known 4", y.known(4, 0), BAD);
        due("all know 4", y.allKnow(4), BAD);
    }

    /** Promises 23, 24. */
    private static void mostAndOrder() {
        CrierWeeks x = told("c10,1;z12,1;z5,0;n0,9,0;n0,4,0;n1,5,1;b0,2,0;", 4);
        // 1, 2, 3 take 4, 5, 1 words; no set of three with 0 fits.
        due("which", x.most(0), 14);
        due("words", x.most(1), 10);
        due("people", x.most(2), 0);
        due("what 3", x.most(3), BAD);
        due("what -1", x.most(-1), BAD);
        // 0 and 3 take 10 words of the first week, 1 and 2 take 9 of the next.
        due("weeks", x.order(-1), 2);
        due("first", x.order(0), 0);
        due("k -2", x.order(-2), BAD);
        due("k 4", x.order(4), NONE);
        due("k most", x.order(Integer.MAX_VALUE), NONE);
        x.say(0);
        due("not again", x.most(0), 8);
        due("words", x.most(1), 1);
        due("people", x.most(2), 2);
        due("order of three", x.order(3), NONE);

        CrierWeeks y = told("c10,1;z99,0;z20,0;n0,6,0;n0,6,0;n1,4,0;n1,4,0;", 4);
        due("fewest words", y.most(0), 12);
        due("words", y.most(1), 8);
        due("both need 0", y.most(2), 0);
        due("one week", y.order(-1), 1);
        due("k 0", y.order(0), 0);
        due("k 1", y.order(1), 2);
        due("k 2", y.order(2), 1);
        due("k 3", y.order(3), 3);

        CrierWeeks same = told("c10,1;z99,0;n0,6,0;n0,6,0;n0,4,0;n0,4,3;w0,1,4;", 5);
        same.say(4);
        due("4 words twice", same.most(0), 12);
        same.say(2);
        due("of equals the least", same.most(0), 8);
        same.undo();
        same.say(3);
        due("of equals the least", same.most(0), 4);
        CrierWeeks ties = told("c9,1;z99,0;z9,0;n0,5,0;n0,5,0;n1,4,0;", 3);
        due("5 and 4, by either", ties.most(0), 5);
        due("its words", ties.most(1), 9);

        CrierWeeks z = told("c10,1;z9,1;e0,30,0;n0,10,0;", 2);
        // 9 crowns: the notice behind 1 WEEK, then 31 more; the echo behind 22, then 10 more.
        due("weeks of the echo", z.when(0), 22);
        due("weeks", z.order(-1), 32);
        due("echo first", z.order(0), 0);
        due("notice", z.order(1), 1);

        CrierWeeks late = told("c10,1;z0,1;e0,29,0;e0,29,0;", 2);
        due("60 weeks", late.order(-1), 60);
        CrierWeeks later = told("c10,1;z0,1;e0,29,0;e0,30,0;", 2);
        due("61 weeks", later.order(-1), NONE);
        due("none", later.order(0), NONE);
        CrierWeeks all = told("c10,1;z9,1;n0,1,0;", 1);
        all.say(0);
        due("none is left: weeks", all.order(-1), 0);
        due("none is left", all.order(0), NONE);
        due("none is left: most", all.most(0), 0);
        due("none is left: people", all.most(2), 1);
    }

    /** Promises 26, 31. */
    private static void deafness() {
        CrierWeeks x = told(WHISPERS, 3);
        due("to 1 at once", x.deaf(0, 1, 0, 0), NONE);
        due("2 does not know yet", x.deaf(0, 2, 0, 0), 0);
        due("which: nobody", x.deaf(0, 2, 0, 1), 0);
        due("1 deaf is enough for a week", x.deaf(0, 2, 1, 0), 1);
        due("which", x.deaf(0, 2, 1, 1), 2);
        due("behind two weeks both sides", x.deaf(0, 2, 2, 0), 2);
        due("which: 1 and 3", x.deaf(0, 2, 2, 1), 10);
        due("the echo, 0", x.deaf(1, 0, 1, 1), 10);
        due("who says it", x.deaf(0, 0, 30, 0), NONE);
        due("a notice", x.deaf(2, 0, 0, 1), NONE);
        due("n 31", x.deaf(0, 0, 31, 0), BAD);
        due("n -1", x.deaf(0, 0, -1, 0), BAD);
        due("what 2", x.deaf(0, 0, 0, 2), BAD);
        due("what -1", x.deaf(0, 0, 0, -1), BAD);
        due("speech 3", x.deaf(3, 0, 0, 0), BAD);
        due("person 5", x.deaf(0, 5, 0, 0), BAD);

        fraction(x, "1 at once", new int[] {0, 1, 0, 4}, 3, 5);
        fraction(x, "2 not yet", new int[] {0, 2, 0, 4}, 0, 1);
        fraction(x, "2 by 1", new int[] {0, 2, 1, 4}, 9, 25);
        // 2 hears (3/5), and 1 does (3/5), or 1 does not and 3 and 4 do (2/5 times 9/25).
        fraction(x, "2 by both", new int[] {0, 2, 2, 4}, 3 * (3 * 25 + 2 * 9), 625);
        fraction(x, "nobody deaf", new int[] {0, 2, 1, 0}, 1, 1);
        fraction(x, "all deaf", new int[] {0, 2, 30, 10}, 0, 1);
        fraction(x, "who", new int[] {0, 0, 0, 10}, 1, 1);
        fraction(x, "a notice to the deaf", new int[] {2, 3, 0, 10}, 1, 1);
        due("p 11", x.heard(0, 0, 0, 11, 0), BAD);
        due("p -1", x.heard(0, 0, 0, -1, 0), BAD);
        due("n 31", x.heard(0, 0, 31, 1, 0), BAD);
        due("what 2", x.heard(0, 0, 1, 1, 2), BAD);
        due("speech 3", x.heard(3, 0, 1, 1, 0), BAD);
        due("person -1", x.heard(0, -1, 1, 1, 0), BAD);

        x.say(0);
        due("said: known to 1 and stays so", x.deaf(0, 1, 0, 0), NONE);
        due("said: 1 passes it on, deaf or not", x.deaf(0, 2, 1, 0), NONE);
        fraction(x, "said: 2 by itself", new int[] {0, 2, 1, 4}, 3, 5);
        fraction(x, "said: 1 knows", new int[] {0, 1, 0, 10}, 1, 1);
    }

    private static void fraction(CrierWeeks x, String what, int[] a, long above, long below) {
        due(what + ", above", x.heard(a[0], a[1], a[2], a[3], 0), above);
        due(what + ", below", x.heard(a[0], a[1], a[2], a[3], 1), below);
    }

    /** Promise 27. */
    private static void shares() {
        CrierWeeks x = told(FIVE, 5);
        // Claims 9, 12, 8, 0, 0 of 29.
        int[] due = {4, 4, 2, 0, 0};
        for (int p = 0; p < 5; p++) {
            due("share of " + p, x.share(p, 10), due[p]);
        }
        due("share of none", x.share(0, 0), 0);
        due("share of 1", x.share(0, 1), 1);
        due("not the second", x.share(1, 1), 0);
        due("n 100", x.share(0, 100), BAD);
        due("n -1", x.share(0, -1), BAD);
        due("person 5", x.share(5, 1), BAD);
        x.say(0);
        x.buy(2, 9);
        due("only 1 claims", x.share(1, 99), 99);
        due("said", x.share(0, 99), 0);
        due("banked more", x.share(2, 99), 0);
        due("no claims", told("c1,1;z1,1;w0,1,0;", 1).share(0, 9), 0);
    }

    /** Promises 28, 29, 30. */
    private static void rowCalls() {
        CrierWeeks x = told("c6,2;z12,2;z5,0;z98,20;w1,3,0;n0,4,0;", 2);
        rowOf(x, 0, 0, 2, 1, 9, 3);
        rowOf(x, 1, 2, 3, 3, 2, 999, 1000, 0, -1, 10);
        due("nothing bought", x.thrift(0, 0, 0, 0, 4), 20);
        due("by the cheap week", x.thrift(0, 3, 0, 0, 2), 13);
        due("6 a week at most", x.thrift(0, 7, 0, 0, 2), 8);
        due("too dear", x.thrift(0, 12, 0, 0, 2), NONE);
        due("99 at most", x.thrift(2, 0, 0, 0, 4), 99);
        due("what is above 99 is better spent", x.thrift(2, 2, 0, 2, 2), 99);
        due("the whole purse", x.thrift(1, 5, 0, 1, 1), 0);
        due("an empty one", x.thrift(1, 6, 0, 1, 1), NONE);
        x.row(3, 0, 12);
        for (int i = 0; i < 12; i++) {
            x.set(3, i, 9 - i % 9);
        }
        // 12 crowns and 22 more till the last week: 6 at 1 (week 9), 4 at 2 (week 8) cost 14.
        due("12 weeks", x.thrift(0, 10, 3, 0, 12), 36 - 14);
        due("w 61", x.thrift(0, 61, 0, 0, 2), BAD);
        due("w -1", x.thrift(0, -1, 0, 0, 2), BAD);
        due("n 0", x.thrift(0, 0, 0, 0, 0), BAD);
        due("n 13", x.thrift(0, 0, 0, 0, 13), BAD);
        due("person 3", x.thrift(3, 0, 0, 0, 1), BAD);
        due("row 8", x.thrift(0, 0, 8, 0, 1), BAD);
        due("missing", x.thrift(0, 0, 2, 0, 1), NULL);
        due("place", x.thrift(0, 0, 0, 3, 2), PLACE);
        due("place -1", x.thrift(0, 0, 0, -1, 2), PLACE);
        due("place most", x.thrift(0, 0, 0, Integer.MAX_VALUE, 12), PLACE);
        due("no price", x.thrift(0, 0, 1, 5, 1), KIND);
        due("no price 10", x.thrift(0, 0, 1, 7, 1), KIND);

        due("kinds", x.who(0, 0, 1, 0, 2), 62);
        due("whose", x.who(0, 1, 1, 0, 2), 7);
        due("kinds, not so", x.who(0, 0, 1, 0, 3), 0);
        due("whose, not so", x.who(0, 1, 1, 0, 3), 0);
        due("which 2", x.who(0, 2, 1, 0, 1), BAD);
        due("speech 2", x.who(2, 0, 1, 0, 1), BAD);
        due("row -1", x.who(0, 0, -1, 0, 1), BAD);
        due("n 0", x.who(0, 0, 1, 0, 0), BAD);
        due("n 13", x.who(0, 0, 1, 0, 13), BAD);
        due("missing", x.who(0, 0, 2, 0, 1), NULL);
        due("place", x.who(0, 0, 1, 8, 1), PLACE);

        due("priced", x.priced(1, 0, 0, 0, 4), 3 * 2 + 3 * 1 + 2 * 9 + 999 * 3);
        due("none of them", x.priced(1, 5, 0, 0, 1), 0);
        due("1000 words", x.priced(1, 4, 0, 0, 1), KIND);
        due("-1 words", x.priced(1, 6, 0, 0, 1), KIND);
        due("price 0", x.priced(0, 0, 1, 5, 1), KIND);
        due("price 10", x.priced(0, 0, 1, 7, 1), KIND);
        due("place of the words ahead of the other's null", x.priced(0, 4, 2, 0, 1), PLACE);
        due("null of the words", x.priced(2, 0, 0, 9, 1), NULL);
        due("null of the other", x.priced(1, 4, 2, 9, 1), NULL);
        due("place of the other", x.priced(1, 4, 0, 4, 1), PLACE);
        due("n 13", x.priced(0, 0, 0, 0, 13), BAD);
        due("n 0", x.priced(0, 0, 0, 0, 0), BAD);
        due("row 8", x.priced(8, 0, 0, 0, 1), BAD);
        due("other 8", x.priced(0, 0, 8, 0, 1), BAD);
        due("without a duchy", withRow().priced(0, 0, 0, 0, 2), 4 + 9);
    }

    private static CrierWeeks withRow() {
        CrierWeeks x = new CrierWeeks();
        rowOf(x, 0, 0, 2, 3);
        return x;
    }

    /** Promise 32. */
    private static void draws() {
        CrierWeeks x = told("c9,1;z99,0;n0,5,0;n0,4,0;n0,3,0;", 3);
        due("no weeks", x.drawn(0, 1, 0), 0);
        due("no hill", x.drawn(0, 1, 1), 0);
        // 16807 by 3 leaves 1.
        due("first", x.drawn(1, 1, 0), 2);
        due("hill", x.drawn(1, 1, 1), 5);
        // 282475249 by 3 leaves 1 again.
        due("second", x.drawn(2, 1, 0), 2);
        due("hill", x.drawn(2, 1, 1), 14);
        // 1622650073 by 3 leaves 2.
        due("third", x.drawn(3, 1, 0), 6);
        due("hill", x.drawn(3, 1, 1), 20);
        due("n 61", x.drawn(61, 1, 0), BAD);
        due("seed 0", x.drawn(1, 0, 0), BAD);
        due("seed 1000000", x.drawn(1, 1000000, 0), BAD);
        due("what 2", x.drawn(1, 1, 2), BAD);
        due("nothing is said", x.stand(4), 0);
    }

    /** Promises 33, 34. */
    private static void images() {
        CrierWeeks x = told(FIVE, 5);
        due("none kept", x.restore(0), STATE);
        due("image 2", x.image(2), BAD);
        due("image -1", x.image(-1), BAD);
        due("restore 2", x.restore(2), BAD);
        x.say(0);
        x.buy(2, 3);
        due("kept", x.image(1), 1);
        due("other one", x.restore(0), STATE);
        due("acts stay", x.count(6), 2);
        x.weeks(3);
        x.price(5);
        due("restored", x.restore(1), 1);
        due("week", x.count(3), 0);
        due("price", x.stand(2), 2);
        due("said", x.stand(4), 1);
        due("banked", x.person(2, 2), 3);
        due("no act", x.undo(), STATE);
        feedAll(x, WHISPERS);
        x.duchy();
        due("image 0", x.image(0), 1);
        due("the one before", x.restore(1), 1);
        due("its speeches", x.count(2), 5);
        due("its ration", x.stand(3), 20);
        due("its birth", x.kind(1), 2);
        due("known", x.speech(0, 6), 31);
        due("again", x.restore(0), 1);
        due("echo", x.kind(1), 5);
        due("acts begin anew", x.weeks(1), 10);
        due("undone", x.undo(), 0);
    }

    private static void asksOf(CrierWeeks x, int one, int what, int due, int... bodies) {
        due("ask " + one + ", " + what, x.ask(one, what), due);
        for (int i = 0; i < bodies.length; i++) {
            due("trace " + i + " of " + one + ", " + what, x.trace(i), bodies[i]);
        }
        due("end of the trace", x.trace(bodies.length), NONE);
    }

    /** Promises 35 to 38. */
    private static void kinds() {
        CrierWeeks x = told(FIVE, 5);
        due("empty trace", x.trace(0), NONE);
        boolean[][] is = {
            {true, true, false, false, false, false},
            {true, true, true, false, false, false},
            {true, true, false, true, false, false},
            {true, false, false, false, true, false},
            {true, false, false, false, true, true},
        };
        for (int s = 0; s < 5; s++) {
            due("kind", x.kind(s), s + 1);
            for (int k = 0; k < 6; k++) {
                due("as " + s + ", " + k, x.as(s, k), is[s][k] ? s : KIND);
                due("status", x.status(), is[s][k] ? 0 : 3);
            }
        }
        due("kind 6", x.as(0, 6), BAD);
        due("kind -1", x.as(0, -1), BAD);
        due("as 5", x.as(5, 0), BAD);
        due("kind of 5", x.kind(5), BAD);
        due("kind of -1", x.kind(-1), BAD);

        asksOf(x, 0, 0, 9 + 0 + 2, 11, 10, 21, 20);
        asksOf(x, 0, 1, 2, 21, 20);
        asksOf(x, 1, 0, -(15 + 2 * (1 + 2)), 12, 11, 10, 24, 21, 20);
        asksOf(x, 1, 1, 6, 24, 21, 20);
        asksOf(x, 2, 0, 6 + 2 + 2 - 1000, 11, 10, 22, 21, 20);
        asksOf(x, 2, 1, 4 - 1000, 22, 21, 20);
        asksOf(x, 3, 0, 4 - 100, 13, 10);
        asksOf(x, 3, 1, 3 + 96, 23, 20, 13, 10);
        asksOf(x, 4, 0, 2 * (30 - 100), 14, 13, 10);
        asksOf(x, 4, 1, 4 + 140, 23, 20, 14, 13, 10);
        due("ask 2", x.ask(0, 2), BAD);
        due("ask -1", x.ask(0, -1), BAD);
        due("ask of 5", x.ask(5, 0), BAD);
        due("the trace stays", x.trace(4), 10);
        due("trace -1", x.trace(-1), NONE);
        due("trace 16", x.trace(16), NONE);
        due("trace most", x.trace(Integer.MAX_VALUE), NONE);
        x.price(9);
        asksOf(x, 0, 1, 9, 21, 20);
    }

    /** Promise 39. */
    private static void counts() {
        CrierWeeks x = told(FIVE, 5);
        x.row(3, 0, 0);
        x.row(4, 0, 9);
        x.row(4, 1, 9);
        x.say(0);
        x.weeks(2);
        x.feed('c');
        int[] due = {2, 5, 5, 2, 20, 31, 3, 1};
        for (int w = 0; w < 8; w++) {
            due("count " + w, x.count(w), due[w]);
        }
        x.drop(3);
        due("rows", x.count(0), 1);
        due("count 8", x.count(8), BAD);
        due("count -1", x.count(-1), BAD);
    }

    /** Promise 40. */
    private static void statuses() {
        CrierWeeks x = told(FIVE, 5);
        due("none yet", x.status(), 0);
        x.set(0, 0, 0);
        due("null", x.status(), 1);
        x.set(8, 0, 0);
        due("bad is none", x.status(), 1);
        x.weeks(1);
        x.ask(0, 0);
        due("calls without a row", x.status(), 1);
        x.row(0, 0, 2);
        due("row", x.status(), 0);
        x.set(0, 2, 0);
        due("place", x.status(), 2);
        x.set(0, 1, 7);
        due("set", x.status(), 0);
        x.as(0, 4);
        due("kind", x.status(), 3);
        x.as(0, 9);
        due("bad as", x.status(), 3);
        x.as(0, 1);
        due("as", x.status(), 0);
        x.row(1, 1, -2);
        due("size", x.status(), 4);
        due("nothing is made", x.count(0), 1);
        x.drop(0);
        due("drop", x.status(), 0);
        x.row(0, 0, 2);
        x.row(1, 1, 2);
        x.copy(0, 0, 1, 0, 1);
        due("store", x.status(), 5);
        x.copy(0, 0, 0, 0, 1);
        due("copy", x.status(), 0);
        x.thrift(0, 0, 0, 0, 1);
        due("thrift kind", x.status(), 3);
        x.who(0, 0, 0, 0, 1);
        due("who", x.status(), 0);
        x.priced(0, 0, 0, 0, 2);
        due("priced kind", x.status(), 3);
        x.set(0, 0, 9);
        x.thrift(0, 60, 0, 0, 1);
        due("thrift, none", x.status(), 0);
        x.who(0, 0, 0, 2, 1);
        due("who place", x.status(), 2);
        x.priced(0, 0, 0, 0, 1);
        due("priced", x.status(), 0);
    }

    /** Promise 1, and STATE ahead of BAD where it is told. */
    private static void noDuchy() {
        CrierWeeks x = new CrierWeeks();
        due("undo", x.undo(), STATE);
        due("fault", x.fault(), 0);
        due("status", x.status(), 0);
        for (int w = 0; w < 8; w++) {
            due("count " + w, x.count(w), 0);
        }
        for (int v : new int[] {0, 1, -9, 100}) {
            due("weeks", x.weeks(v), STATE);
            due("letOut", x.letOut(v), STATE);
            due("price", x.price(v), STATE);
            due("stand", x.stand(v), STATE);
            due("hill", x.hill(v), STATE);
            due("most", x.most(v), STATE);
            due("order", x.order(v), STATE);
            due("drawn", x.drawn(v, v, v), STATE);
            due("say", x.say(v), BAD);
            due("when", x.when(v), BAD);
        }
        due("clear", x.clear(), STATE);
        due("image 9", x.image(9), BAD);
        due("image", x.image(1), STATE);
        due("restore 9", x.restore(9), BAD);
        due("restore", x.restore(1), STATE);
        x.row(0, 0, 1);
        due("thrift", x.thrift(0, 0, 0, 0, 1), BAD);
        due("who", x.who(0, 0, 0, 0, 1), BAD);
    }
}
