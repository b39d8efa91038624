import java.util.function.IntFunction;
import java.util.function.ToLongFunction;

/** The edges that promises 1 to 40 name, each by a test of its own: what is BAD, STATE, FULL or a FINDING, and what is just not. */
public final class CallsEdgesTest {
    private static final Check CHECK = new Check("calls' edges");
    /** Three people; 0 a notice, 1 a whisper that needs it, 2 an echo, 3 a birth. */
    private static final String TOWN = "c20,2;z40,3;z30,1;z99,20;n0,9,0;w1,5,0;e2,6,2;b0,4,1;";

    public static void main(String[] args) {
        newObject();
        stateAheadOfBad();
        row();
        set();
        copyFindings();
        copyMoves();
        drop();
        undo();
        weeks();
        say();
        buy();
        letOut();
        price();
        speech();
        person();
        stand();
        foretold();
        mostOrder();
        deafShareHeard();
        rowCalls();
        pricedOrder();
        drawn();
        images();
        asking();
        trace();
        count();
        status();
        CHECK.end();
    }

    private static CrierWeeks town() {
        CrierWeeks x = CHECK.told(TOWN);
        x.row(0, 0, 12);
        x.row(1, 2, 40);
        for (int i = 0; i < 12; i++) {
            x.set(0, i, 1 + i % 9);
        }
        return x;
    }

    private static void newObject() {
        CHECK.of("CrierWeeks(): No DUCHY");
        CrierWeeks x = new CrierWeeks();
        for (int w = 0; w < 8; w++) {
            CHECK.due("count " + w, x.count(w), 0);
        }
        CHECK.due("fault", x.fault(), 0);
        CHECK.due("status", x.status(), 0);
        CHECK.due("trace", x.trace(0), Check.NONE);
        CHECK.due("undo", x.undo(), Check.STATE);
        CHECK.due("clear", x.clear(), Check.STATE);
        CHECK.of("BAD: there is no such thing (no SPEECH, no PERSON without a DUCHY)");
        x.row(0, 0, 1);
        x.set(0, 0, 1);
        CHECK.due("say", x.say(0), Check.BAD);
        CHECK.due("buy", x.buy(0, 1), Check.BAD);
        CHECK.due("speech", x.speech(0, 0), Check.BAD);
        CHECK.due("person", x.person(0, 0), Check.BAD);
        CHECK.due("purse", x.purse(0, 0), Check.BAD);
        CHECK.due("known", x.known(0, 0), Check.BAD);
        CHECK.due("allKnow", x.allKnow(0), Check.BAD);
        CHECK.due("when", x.when(0), Check.BAD);
        CHECK.due("deaf", x.deaf(0, 0, 0, 0), Check.BAD);
        CHECK.due("share", x.share(0, 0), Check.BAD);
        CHECK.due("thrift", x.thrift(0, 0, 0, 0, 1), Check.BAD);
        CHECK.due("who", x.who(0, 0, 0, 0, 1), Check.BAD);
        CHECK.due("heard", x.heard(0, 0, 0, 0, 0), Check.BAD);
        CHECK.due("kind", x.kind(0), Check.BAD);
        CHECK.due("as", x.as(0, 0), Check.BAD);
        CHECK.due("ask", x.ask(0, 0), Check.BAD);
        CHECK.due("a ROW needs no DUCHY", x.priced(0, 0, 0, 0, 1), 1);
    }

    /** Calls whose STATE is told as ahead of BAD: STATE without a DUCHY, for right and wrong numbers. */
    private static void stateFirst(String call, IntFunction<Number> without, IntFunction<Number> with, int wrong) {
        for (int v : new int[] {0, 1, wrong, Check.LEAST, Check.MOST}) {
            CHECK.due(call + ", " + v, without.apply(v).longValue(), Check.STATE);
        }
        CHECK.due(call + " with a DUCHY", with.apply(wrong).longValue(), Check.BAD);
    }

    private static void stateAheadOfBad() {
        CHECK.of("STATE: no DUCHY (ahead of BAD)");
        CrierWeeks none = new CrierWeeks();
        CrierWeeks x = town();
        stateFirst("weeks", none::weeks, x::weeks, 25);
        stateFirst("letOut", none::letOut, x::letOut, 100);
        stateFirst("price", none::price, x::price, 10);
        stateFirst("stand", none::stand, x::stand, 5);
        stateFirst("hill", none::hill, x::hill, 61);
        stateFirst("most", none::most, x::most, 3);
        stateFirst("order", none::order, x::order, -2);
        stateFirst("drawn, n", v -> none.drawn(v, 1, 0), v -> x.drawn(v, 1, 0), 61);
        stateFirst("drawn, SEED", v -> none.drawn(1, v, 0), v -> x.drawn(1, v, 0), 1000000);
        stateFirst("drawn, what", v -> none.drawn(1, 1, v), v -> x.drawn(1, 1, v), 2);
        CHECK.of("image: BAD; STATE: no DUCHY");
        CHECK.due("BAD", none.image(2), Check.BAD);
        CHECK.due("BAD", none.image(-1), Check.BAD);
        CHECK.due("STATE", none.image(0), Check.STATE);
        CHECK.due("STATE", none.image(1), Check.STATE);
        CHECK.of("restore: BAD; STATE: none was kept");
        CHECK.due("BAD", none.restore(2), Check.BAD);
        CHECK.due("BAD", none.restore(-1), Check.BAD);
        CHECK.due("STATE", none.restore(0), Check.STATE);
        CHECK.due("STATE", none.restore(1), Check.STATE);
        CHECK.due("STATE with a DUCHY", x.restore(0), Check.STATE);
    }

    private static void row() {
        CHECK.of("row: BAD: ROW, LANE, n above 40; SIZE");
        CrierWeeks x = new CrierWeeks();
        CHECK.bounds("ROW", 0, 7, r -> x.row(r, 0, 1));
        CHECK.bounds("LANE", 0, 2, lane -> x.row(0, lane, 1));
        CHECK.due("41", x.row(0, 0, 41), Check.BAD);
        CHECK.due("most", x.row(0, 0, Check.MOST), Check.BAD);
        CHECK.due("40", x.row(0, 0, 40), 40);
        CHECK.due("0", x.row(0, 0, 0), 0);
        CHECK.due("-1", x.row(0, 0, -1), Check.SIZE);
        CHECK.due("least", x.row(0, 0, Check.LEAST), Check.SIZE);
        CHECK.due("BAD ahead of SIZE: ROW", x.row(8, 0, -1), Check.BAD);
        CHECK.due("BAD ahead of SIZE: LANE", x.row(0, 3, -1), Check.BAD);
        CHECK.of("row: in place of what is there");
        CHECK.row(x, 3, 2, 70000, 5);
        CHECK.due("anew", x.row(3, 1, 3), 3);
        CHECK.due("a short", x.set(3, 2, 70000), 4464);
        CHECK.due("no fourth", x.set(3, 3, 0), Check.PLACE);
        CHECK.due("how many", x.drop(3), 3);
    }

    private static void set() {
        CHECK.of("set: ITEM i becomes v, its lowest bits, as many as the LANE has");
        CrierWeeks x = new CrierWeeks();
        x.row(0, 0, 1);
        x.row(1, 1, 1);
        x.row(2, 2, 1);
        int[][] due = {
            {127, 127, 127, 127}, {128, -128, 128, 128}, {255, -1, 255, 255}, {256, 0, 256, 256}, {-128, -128, -128, -128},
            {-129, 127, -129, -129}, {-256, 0, -256, -256}, {32767, -1, 32767, 32767}, {32768, 0, -32768, 32768},
            {65535, -1, -1, 65535}, {65536, 0, 0, 65536}, {-32768, 0, -32768, -32768}, {-32769, -1, 32767, -32769},
            {Check.MOST, -1, -1, Check.MOST}, {Check.LEAST, 0, 0, Check.LEAST}};
        for (int[] d : due) {
            for (int lane = 0; lane < 3; lane++) {
                CHECK.due("set " + d[0] + " in lane " + lane, x.set(lane, 0, d[0]), d[1 + lane]);
            }
        }
        CHECK.of("set: BAD: ROW; NULL; PLACE");
        CHECK.bounds("ROW", 0, 7, r -> x.set(r, 0, 1));
        x.row(3, 0, 40);
        for (int i : new int[] {-1, 40, 41, Check.LEAST, Check.MOST}) {
            CHECK.due("PLACE " + i, x.set(3, i, 1), Check.PLACE);
            CHECK.due("NULL ahead of PLACE", x.set(4, i, 1), Check.NULL);
            CHECK.due("BAD ahead of both", x.set(8, i, 1), Check.BAD);
        }
        CHECK.due("the first", x.set(3, 0, 1), 1);
        CHECK.due("the last", x.set(3, 39, 2), 2);
        x.row(5, 0, 0);
        CHECK.due("of an empty one", x.set(5, 0, 1), Check.PLACE);
    }

    private static void copyFindings() {
        CHECK.of("copy: BAD: ROWS; NULL; STORE; PLACE (i, j, n below 0, or beyond an end)");
        CrierWeeks x = new CrierWeeks();
        x.row(0, 0, 5);
        x.row(1, 0, 3);
        x.row(2, 1, 3);
        x.row(3, 2, 3);
        CHECK.bounds("a", 0, 7, a -> x.copy(a, 0, 0, 0, 1));
        CHECK.bounds("b", 0, 7, b -> x.copy(0, 0, b, 0, 1));
        CHECK.due("BAD ahead of NULL", x.copy(8, 0, 7, 0, 1), Check.BAD);
        CHECK.due("BAD ahead of NULL", x.copy(7, 0, 8, 0, 1), Check.BAD);
        CHECK.due("NULL a", x.copy(7, 0, 0, 0, 0), Check.NULL);
        CHECK.due("NULL b", x.copy(0, 0, 7, 0, 0), Check.NULL);
        CHECK.due("NULL both", x.copy(7, 0, 7, 0, 0), Check.NULL);
        CHECK.due("NULL ahead of PLACE", x.copy(0, -1, 7, 0, -1), Check.NULL);
        CHECK.due("STORE bytes, shorts", x.copy(0, 0, 2, 0, 1), Check.STORE);
        CHECK.due("STORE shorts, bytes", x.copy(2, 0, 0, 0, 1), Check.STORE);
        CHECK.due("STORE shorts, ints", x.copy(2, 0, 3, 0, 1), Check.STORE);
        CHECK.due("STORE bytes, ints", x.copy(0, 0, 3, 0, 1), Check.STORE);
        CHECK.due("STORE of none", x.copy(0, 0, 3, 0, 0), Check.STORE);
        CHECK.due("STORE ahead of PLACE", x.copy(0, -1, 2, 9, -1), Check.STORE);
        int[][] places = {{-1, 0, 1}, {0, -1, 1}, {0, 0, -1}, {0, 0, 4}, {3, 0, 3}, {0, 1, 3}, {6, 0, 0}, {0, 4, 0},
            {5, 0, 1}, {0, 3, 1}, {-1, 0, 0}, {0, -1, 0}, {Check.MOST, 0, 1}, {0, Check.MOST, 1}, {0, 0, Check.MOST},
            {1, 1, Check.MOST}, {Check.MOST, Check.MOST, Check.MOST}, {Check.LEAST, 0, 1}, {0, Check.LEAST, 1},
            {0, 0, Check.LEAST}, {5, 3, Check.LEAST}, {Check.LEAST, Check.LEAST, Check.LEAST}, {6, 0, -1}, {2, 0, -2}};
        for (int[] p : places) {
            CHECK.due("PLACE " + p[0] + ", " + p[1] + ", " + p[2], x.copy(0, p[0], 1, p[1], p[2]), Check.PLACE);
        }
        CHECK.due("all of b", x.copy(0, 0, 1, 0, 3), 3);
        CHECK.due("the last of a", x.copy(0, 2, 1, 0, 3), 3);
        CHECK.due("all of a to itself", x.copy(0, 0, 0, 0, 5), 5);
        CHECK.due("none at both ends", x.copy(0, 5, 1, 3, 0), 0);
        x.row(4, 0, 0);
        CHECK.due("none of none", x.copy(4, 0, 4, 0, 0), 0);
        CHECK.due("one of none", x.copy(4, 0, 0, 0, 1), Check.PLACE);
    }

    private static void copyMoves() {
        CHECK.of("copy: n ITEMS of a from i on come to b from j on, as they were ahead");
        for (int lane = 0; lane < 3; lane++) {
            CrierWeeks x = new CrierWeeks();
            CHECK.row(x, 7, lane, 1);
            CHECK.row(x, 0, lane, 1, 2, 3, 4, 5);
            CHECK.due("up", x.copy(0, 0, 0, 1, 4), 4);
            items(x, 0, 1, 1, 2, 3, 4);
            CHECK.row(x, 0, lane, 1, 2, 3, 4, 5);
            CHECK.due("down", x.copy(0, 1, 0, 0, 4), 4);
            items(x, 0, 2, 3, 4, 5, 5);
            CHECK.row(x, 1, lane, 6, 7, 8);
            CHECK.due("to another", x.copy(0, 3, 1, 1, 2), 2);
            items(x, 1, 6, 5, 5);
            items(x, 0, 2, 3, 4, 5, 5);
            CHECK.due("none", x.copy(0, 0, 1, 0, 0), 0);
            items(x, 1, 6, 5, 5);
            x.set(0, 3, 9);
            items(x, 1, 6, 5, 5);
        }
    }

    private static void items(CrierWeeks x, int row, int... due) {
        for (int i = 0; i < due.length; i++) {
            CHECK.due("item " + i + " of " + row, x.priced(row, i, 7, 0, 1), due[i]);
        }
    }

    private static void drop() {
        CHECK.of("drop: A ROW is missing from now on: how many ITEMS it had. BAD; NULL");
        CrierWeeks x = new CrierWeeks();
        CHECK.bounds("ROW", 0, 7, r -> x.drop(r));
        x.row(0, 0, 0);
        x.row(1, 1, 40);
        CHECK.due("none", x.drop(0), 0);
        CHECK.due("40", x.drop(1), 40);
        CHECK.due("again", x.drop(0), Check.NULL);
        CHECK.due("set", x.set(1, 0, 0), Check.NULL);
        CHECK.due("ROWS", x.count(0), 0);
    }

    private static void undo() {
        CHECK.of("undo: The latest ACT is undone: how many can be undone yet. STATE: none");
        CrierWeeks x = town();
        CHECK.due("none yet", x.undo(), Check.STATE);
        x.say(0);
        x.weeks(2);
        CHECK.due("two yet", x.undo(), 2);
        CHECK.due("one yet", x.undo(), 1);
        CHECK.due("none yet", x.undo(), 0);
        CHECK.due("none", x.undo(), Check.STATE);
        CHECK.due("as at first", x.stand(0), 20);
        x.say(0);
        x.say(0);
        x.weeks(0);
        x.buy(0, 99);
        CHECK.due("what is refused is no ACT", x.undo(), 0);
    }

    private static void weeks() {
        CHECK.of("weeks: n WEEKS (1 to 24), an ACT each: the HILL then. BAD");
        CrierWeeks x = town();
        CHECK.bounds("n", 1, 24, v -> x.weeks(v));
        CrierWeeks y = town();
        CHECK.due("one", y.weeks(1), 20);
        CHECK.due("an ACT", y.count(6), 1);
        CHECK.due("24", y.weeks(24), 500);
        CHECK.due("ACTS", y.count(6), 24);
        CHECK.due("WEEK", y.count(3), 25);
        CHECK.of("weeks: FULL: WEEK would be above 999");
        CrierWeeks z = town();
        for (int i = 0; i < 41; i++) {
            z.weeks(24);
        }
        CHECK.due("984 and 16", z.weeks(16), Check.FULL);
        CHECK.due("984 and 24", z.weeks(24), Check.FULL);
        CHECK.due("WEEK stays", z.count(3), 984);
        CHECK.due("BAD ahead of FULL", z.weeks(25), Check.BAD);
        CHECK.due("998", z.weeks(14), 999);
        CHECK.due("998 and 2", z.weeks(2), Check.FULL);
        CHECK.due("999", z.weeks(1), 999);
        CHECK.due("WEEK", z.count(3), 999);
        CHECK.due("999 and 1", z.weeks(1), Check.FULL);
        CHECK.due("BAD ahead of FULL", z.weeks(0), Check.BAD);
        CHECK.due("undone", z.undo(), 23);
        CHECK.due("there is room again", z.weeks(1), 999);
        CHECK.of("FORETOLD: WEEK 999 or not");
        CHECK.due("purse", z.purse(0, 60), 99);
        CHECK.due("hill", z.hill(60), 999);
        CHECK.due("drawn", z.drawn(60, 1, 1), 999);
        CHECK.due("order", z.order(-1), 0);
    }

    private static void say() {
        CHECK.of("say: words of LEFT that it took. BAD; STATE: it CAN not be");
        CrierWeeks x = town();
        CHECK.bounds("SPEECH", 0, 3, s -> x.say(s));
        CrierWeeks y = town();
        CHECK.due("notice", y.say(0), 9);
        CHECK.due("whisper", y.say(1), 0);
        CHECK.due("SAID", y.say(1), Check.STATE);
        y.buy(0, 11);
        CHECK.due("nothing LEFT, all BANKED", y.say(3), 0);
        CHECK.due("no such SPEECH", y.say(4), Check.BAD);
    }

    private static void buy() {
        CHECK.of("buy: Bought (1 to 60 words): how many are BANKED. BAD");
        CrierWeeks x = CHECK.told("c60,1;z99,0;z99,0;z99,0;n0,1,0;");
        CHECK.bounds("PERSON", 0, 2, p -> x.buy(p, 1));
        CHECK.bounds("n", 1, 60, n -> x.buy(0, n));
        CHECK.due("60", CHECK.told("c60,1;z99,0;n0,1,0;").buy(0, 60), 60);
        CHECK.due("61", CHECK.told("c60,1;z99,0;n0,1,0;").buy(0, 61), Check.BAD);
        CHECK.of("buy: STATE: not so many LEFT");
        CrierWeeks left = CHECK.told("c10,1;z99,0;n0,1,0;");
        CHECK.due("11 of 10", left.buy(0, 11), Check.STATE);
        CHECK.due("10 of 10", left.buy(0, 10), 10);
        CHECK.due("1 of 0", left.buy(0, 1), Check.STATE);
        CHECK.due("BAD ahead of STATE", left.buy(0, 61), Check.BAD);
        CHECK.due("BAD ahead of STATE", left.buy(0, 0), Check.BAD);
        CHECK.due("BAD ahead of STATE", left.buy(1, 1), Check.BAD);
        CHECK.of("buy: STATE: not so many in the PURSE");
        CrierWeeks purse = CHECK.told("c60,9;z18,0;z17,0;n0,1,0;");
        CHECK.due("2 for 17", purse.buy(1, 2), Check.STATE);
        CHECK.due("2 for 18", purse.buy(0, 2), 2);
        CHECK.due("1 for 0", purse.buy(0, 1), Check.STATE);
        CHECK.of("buy: STATE: above 99");
        CrierWeeks bank = CHECK.told("c60,1;z99,20;z99,0;n0,1,0;");
        bank.buy(0, 60);
        bank.weeks(5);
        CHECK.due("100", bank.buy(0, 40), Check.STATE);
        CHECK.due("another's are others", bank.buy(1, 20), 20);
        CHECK.due("99", bank.buy(0, 39), 99);
    }

    private static void letOut() {
        CHECK.of("letOut: Out of the HILL (1 to 99): LEFT then. BAD");
        CrierWeeks x = town();
        x.weeks(20);
        CHECK.bounds("n", 1, 99, n -> x.letOut(n));
        CHECK.of("letOut: STATE: not so many there");
        CrierWeeks y = town();
        CHECK.due("1 of 0", y.letOut(1), Check.STATE);
        CHECK.due("BAD ahead of STATE", y.letOut(0), Check.BAD);
        CHECK.due("BAD ahead of STATE", y.letOut(100), Check.BAD);
        y.weeks(2);
        CHECK.due("41 of 40", y.letOut(41), Check.STATE);
        CHECK.due("40 of 40", y.letOut(40), 60);
        CHECK.due("the HILL", y.stand(1), 0);
        CHECK.of("letOut: STATE: LEFT above 99");
        CrierWeeks z = town();
        z.weeks(5);
        CHECK.due("20 and 80", z.letOut(80), Check.STATE);
        CHECK.due("20 and 79", z.letOut(79), 99);
        CHECK.due("99 and 1", z.letOut(1), Check.STATE);
        CHECK.due("the HILL", z.stand(1), 21);
        CHECK.of("letOut: 99 at once");
        CrierWeeks all = CHECK.told("c60,1;z99,0;n0,1,0;");
        all.weeks(2);
        all.buy(0, 60);
        CHECK.due("0 and 99", all.letOut(99), 99);
    }

    private static void price() {
        CHECK.of("price: PRICE (1 to 9): what it was. BAD");
        CrierWeeks x = town();
        CHECK.bounds("PRICE", 1, 9, v -> x.price(v));
        CrierWeeks y = town();
        CHECK.due("as told", y.price(9), 2);
        CHECK.due("9", y.price(1), 9);
        CHECK.due("1", y.price(1), 1);
        CHECK.due("an ACT each", y.count(6), 3);
        CHECK.due("0", y.price(0), Check.BAD);
        CHECK.due("10", y.price(10), Check.BAD);
        CHECK.due("stays", y.stand(2), 1);
    }

    private static void speech() {
        CHECK.of("speech: Of a SPEECH: 0 .. 8. BAD");
        CrierWeeks x = town();
        CHECK.bounds("SPEECH", 0, 3, s -> x.speech(s, 0));
        CHECK.bounds("what", 0, 8, w -> x.speech(0, w));
        int[][] due = {{0, 9, Check.NONE, 9, 18, 1, 0, 0, 0}, {1, 5, 0, 0, 1, 1, 0, 0, 0},
            {2, 6, Check.NONE, 0, 7, 1, 0, 0, 0}, {0, 4, 1, 2, 4, 1, 0, 0, 0}};
        int[][] said = {{0, 9, Check.NONE, 9, 18, 0, 7, 7, 1}, {1, 5, 0, 0, 1, 0, 7, 7, 1},
            {2, 6, Check.NONE, 0, 7, 0, 7, 7, 1}, {0, 4, 1, 2, 4, 0, 7, 7, 1}};
        for (int s = 0; s < 4; s++) {
            for (int w = 0; w < 9; w++) {
                CHECK.due("speech " + s + ", " + w, x.speech(s, w), due[s][w]);
            }
        }
        for (int s = 0; s < 4; s++) {
            x.say(s);
        }
        for (int s = 0; s < 4; s++) {
            for (int w = 0; w < 9; w++) {
                CHECK.due("SAID: speech " + s + ", " + w, x.speech(s, w), said[s][w]);
            }
        }
    }

    private static void person() {
        CHECK.of("person: Of a PERSON: 0 .. 4. BAD");
        CrierWeeks x = town();
        CHECK.bounds("PERSON", 0, 2, p -> x.person(p, 0));
        CHECK.bounds("what", 0, 4, w -> x.person(0, w));
        x.say(1);
        x.buy(2, 3);
        int[][] due = {{40, 3, 0, 2, 0}, {29, 1, 0, 2, 0}, {93, 20, 3, 2, 0}};
        for (int p = 0; p < 3; p++) {
            for (int w = 0; w < 5; w++) {
                CHECK.due("person " + p + ", " + w, x.person(p, w), due[p][w]);
            }
        }
        x.say(0);
        CHECK.due("KNOWN", x.person(2, 3), 3);
        CHECK.due("UNDERSTOOD", x.person(2, 4), 3);
    }

    private static void stand() {
        CHECK.of("stand: 0 LEFT, 1 the HILL, 2 PRICE, 3 RATION, 4 SPEECHES SAID (bits). BAD");
        CrierWeeks x = town();
        CHECK.bounds("what", 0, 4, w -> x.stand(w));
        x.weeks(1);
        x.say(0);
        x.say(2);
        x.price(3);
        int[] due = {11, 20, 3, 20, 5};
        for (int w = 0; w < 5; w++) {
            CHECK.due("stand " + w, x.stand(w), due[w]);
        }
    }

    private static void foretold() {
        CHECK.of("purse, hill, known, allKnow, when: BAD");
        CrierWeeks x = town();
        CHECK.bounds("purse of", 0, 2, p -> x.purse(p, 0));
        CHECK.bounds("purse", 0, 60, n -> x.purse(0, n));
        CHECK.bounds("hill", 0, 60, n -> x.hill(n));
        CHECK.bounds("known of", 0, 3, s -> x.known(s, 0));
        CHECK.bounds("known", 0, 60, n -> x.known(0, n));
        CHECK.bounds("allKnow", 0, 3, s -> x.allKnow(s));
        CHECK.bounds("when", 0, 3, s -> x.when(s));
        CHECK.of("when: STATE: it is SAID");
        x.say(0);
        CHECK.due("SAID", x.when(0), Check.STATE);
        CHECK.due("not SAID", x.when(1), 0);
        CHECK.of("allKnow; NONE");
        CHECK.due("SAID", x.allKnow(0), 0);
        CHECK.due("not SAID", x.allKnow(1), Check.NONE);
    }

    private static void mostOrder() {
        CHECK.of("most: which (0), words of LEFT (1), PEOPLE (2). BAD");
        CrierWeeks x = town();
        CHECK.bounds("what", 0, 2, w -> x.most(w));
        CHECK.due("which", x.most(0), 15);
        CHECK.due("words", x.most(1), 11);
        CHECK.due("PEOPLE", x.most(2), 3);
        CHECK.of("order: how many (k = -1), the k-th (0 on; NONE: not so many); BAD: k below -1");
        CHECK.due("-1", x.order(-1), 0);
        for (int k = 0; k < 4; k++) {
            CHECK.due("k " + k, x.order(k), k);
        }
        CHECK.due("k 4", x.order(4), Check.NONE);
        CHECK.due("k 6", x.order(6), Check.NONE);
        CHECK.due("k most", x.order(Check.MOST), Check.NONE);
        CHECK.due("k -2", x.order(-2), Check.BAD);
        CHECK.due("k least", x.order(Check.LEAST), Check.BAD);
        CHECK.of("order; NONE");
        CrierWeeks never = CHECK.told("c1,1;z0,0;w0,1,0;");
        CHECK.due("-1", never.order(-1), Check.NONE);
        CHECK.due("k 0", never.order(0), Check.NONE);
        CHECK.due("k -2", never.order(-2), Check.BAD);
    }

    private static void deafShareHeard() {
        CHECK.of("deaf: how many (0), which (1); NONE. BAD");
        CrierWeeks x = town();
        CHECK.bounds("SPEECH", 0, 3, s -> x.deaf(s, 0, 0, 0));
        CHECK.bounds("PERSON", 0, 2, p -> x.deaf(0, p, 0, 0));
        CHECK.bounds("n", 0, 30, n -> x.deaf(0, 0, n, 0));
        CHECK.bounds("what", 0, 1, w -> x.deaf(0, 0, 0, w));
        CHECK.due("NONE", x.deaf(0, 1, 0, 0), Check.NONE);
        CHECK.due("NONE", x.deaf(0, 1, 0, 1), Check.NONE);
        CHECK.of("share: BAD");
        CHECK.bounds("PERSON", 0, 2, p -> x.share(p, 1));
        CHECK.bounds("n", 0, 99, n -> x.share(0, n));
        CHECK.of("heard: above (0), below (1). BAD");
        CrierWeeks y = town();
        CHECK.bounds("SPEECH", 0, 3, s -> y.heard(s, 0, 0, 0, 0));
        CHECK.bounds("PERSON", 0, 2, p -> y.heard(0, p, 0, 0, 0));
        CHECK.bounds("n", 0, 30, n -> y.heard(0, 0, n, 0, 0));
        CHECK.bounds("p", 0, 10, p -> y.heard(0, 0, 0, p, 0));
        CHECK.bounds("what", 0, 1, w -> y.heard(0, 0, 0, 0, w));
        CHECK.due("above", y.heard(1, 0, 0, 3, 0), 7);
        CHECK.due("below", y.heard(1, 0, 0, 3, 1), 10);
    }

    /** n ITEMS from i on of a ROW of 12: what is PLACE, what is not. */
    private interface Stretch {
        long of(int row, int i, int n);
    }

    private static void places(String call, Stretch answer) {
        int[][] wrong = {{-1, 1}, {12, 1}, {1, 12}, {11, 2}, {Check.MOST, 1}, {Check.MOST, 12}, {Check.LEAST, 1}, {Check.LEAST, 12}};
        for (int[] w : wrong) {
            CHECK.due(call + ", PLACE " + w[0] + ", " + w[1], answer.of(0, w[0], w[1]), Check.PLACE);
            CHECK.due(call + ", NULL ahead of PLACE " + w[0] + ", " + w[1], answer.of(7, w[0], w[1]), Check.NULL);
        }
        for (int[] right : new int[][] {{0, 1}, {11, 1}, {0, 12}, {1, 11}}) {
            boolean found = answer.of(0, right[0], right[1]) < -1000009;
            CHECK.due(call + ", no FINDING " + right[0] + ", " + right[1], found ? 1 : 0, 0);
        }
        for (int n : new int[] {0, 13, -1, Check.LEAST, Check.MOST}) {
            CHECK.due(call + ", BAD ahead of NULL", answer.of(7, 0, n), Check.BAD);
            CHECK.due(call + ", BAD ahead of PLACE", answer.of(0, -1, n), Check.BAD);
        }
    }

    private static void rowCalls() {
        CHECK.of("thrift: BAD: PERSON, w, ROW, n; NULL; PLACE; KIND: an ITEM is no PRICE");
        CrierWeeks x = town();
        CHECK.bounds("PERSON", 0, 2, p -> x.thrift(p, 0, 0, 0, 1));
        CHECK.bounds("w", 0, 60, w -> x.thrift(0, w, 0, 0, 1));
        CHECK.bounds("ROW", 0, 7, r -> x.thrift(0, 0, r, 0, 1));
        CHECK.bounds("n", 1, 12, n -> x.thrift(0, 0, 0, 0, n));
        places("thrift", (row, i, n) -> x.thrift(0, 0, row, i, n));
        CHECK.due("BAD ahead of NULL: PERSON", x.thrift(3, 0, 7, 0, 1), Check.BAD);
        CHECK.due("BAD ahead of NULL: w", x.thrift(0, 61, 7, 0, 1), Check.BAD);
        CHECK.due("PLACE ahead of KIND", x.thrift(0, 0, 1, 39, 2), Check.PLACE);
        CHECK.due("KIND", x.thrift(0, 0, 1, 39, 1), Check.KIND);
        CHECK.due("KIND ahead of NONE", x.thrift(0, 60, 1, 39, 1), Check.KIND);
        CHECK.due("NONE", x.thrift(0, 60, 0, 0, 1), Check.NONE);
        CHECK.of("who: BAD: SPEECH, which, ROW, n; NULL; PLACE");
        CrierWeeks y = town();
        CHECK.bounds("SPEECH", 0, 3, s -> y.who(s, 0, 0, 0, 1));
        CHECK.bounds("which", 0, 1, w -> y.who(0, w, 0, 0, 1));
        CHECK.bounds("ROW", 0, 7, r -> y.who(0, 0, r, 0, 1));
        CHECK.bounds("n", 1, 12, n -> y.who(0, 0, 0, 0, n));
        places("who", (row, i, n) -> y.who(0, 0, row, i, n));
        CHECK.due("BAD ahead of NULL: SPEECH", y.who(4, 0, 7, 0, 1), Check.BAD);
        CHECK.due("BAD ahead of NULL: which", y.who(0, 2, 7, 0, 1), Check.BAD);
        CHECK.of("priced: BAD: ROWS, n");
        CrierWeeks z = town();
        CHECK.bounds("ROW", 0, 7, r -> z.priced(r, 0, 0, 0, 1));
        CHECK.bounds("other", 0, 7, r -> z.priced(0, 0, r, 0, 1));
        CHECK.bounds("n", 1, 12, n -> z.priced(0, 0, 0, 0, n));
        places("priced, WORDS", (row, i, n) -> z.priced(row, i, 0, 0, n));
        places("priced, PRICES", (row, j, n) -> z.priced(0, 0, row, j, n));
        CHECK.due("BAD ahead of NULL", z.priced(7, 0, 8, 0, 1), Check.BAD);
        CHECK.due("BAD ahead of NULL", z.priced(8, 0, 7, 0, 1), Check.BAD);
    }

    private static void pricedOrder() {
        CHECK.of("priced: NULL, PLACE of the WORDS' ROW, then of the other one; KIND: an ITEM is not as told");
        CrierWeeks x = town();
        CHECK.due("NULL of the WORDS ahead of PLACE of the other", x.priced(7, 0, 0, 99, 1), Check.NULL);
        CHECK.due("PLACE of the WORDS ahead of NULL of the other", x.priced(0, 99, 7, 0, 1), Check.PLACE);
        CHECK.due("NULL of the other ahead of KIND", x.priced(1, 0, 7, 0, 1), Check.NULL);
        x.set(1, 0, -1);
        CHECK.due("NULL of the other ahead of KIND of the WORDS", x.priced(1, 0, 7, 0, 1), Check.NULL);
        CHECK.due("PLACE of the other ahead of KIND of the WORDS", x.priced(1, 0, 0, 12, 1), Check.PLACE);
        CHECK.due("KIND of the WORDS", x.priced(1, 0, 0, 0, 1), Check.KIND);
        CHECK.due("KIND of the PRICES", x.priced(0, 0, 1, 1, 1), Check.KIND);
        CHECK.of("priced: another one (or the same)");
        CHECK.due("the same", x.priced(0, 0, 0, 1, 3), 1 * 2 + 2 * 3 + 3 * 4);
        CHECK.due("another", x.priced(1, 1, 0, 0, 12), 0);
    }

    private static void drawn() {
        CHECK.of("drawn: TERMS by a SEED (1 to 999999): which (0), the HILL (1). BAD");
        CrierWeeks x = town();
        CHECK.bounds("n", 0, 60, n -> x.drawn(n, 1, 0));
        CHECK.bounds("SEED", 1, 999999, seed -> x.drawn(0, seed, 0));
        CHECK.bounds("what", 0, 1, w -> x.drawn(0, 1, w));
        // 16807 by 4 leaves 3: the birth of 2 words.
        CHECK.due("which", x.drawn(1, 1, 0), 8);
        CHECK.due("the HILL", x.drawn(1, 1, 1), 18);
        CHECK.due("nothing changes", x.count(3) + x.stand(4) + x.stand(1), 0);
    }

    private static void images() {
        CHECK.of("image: An IMAGE (0, 1) is kept of the DUCHY: 1. BAD");
        CrierWeeks x = town();
        CHECK.bounds("image", 0, 1, k -> x.image(k));
        CHECK.of("restore: BAD; STATE: none was kept");
        CHECK.bounds("restore", 0, 1, k -> x.restore(k));
        CrierWeeks y = town();
        CHECK.due("kept", y.image(1), 1);
        CHECK.due("the other one was not", y.restore(0), Check.STATE);
        CHECK.due("kept of two", y.restore(1), 1);
        CHECK.due("again", y.restore(1), 1);
        CHECK.of("restore: The DUCHY is as an IMAGE kept it (no ACT can be undone then): 1");
        CrierWeeks z = town();
        z.say(1);
        z.buy(0, 4);
        z.weeks(1);
        CHECK.due("kept", z.image(0), 1);
        CHECK.due("its ACTS can be undone yet", z.count(6), 3);
        z.weeks(3);
        z.letOut(9);
        z.price(9);
        z.say(0);
        CHECK.due("restored", z.restore(0), 1);
        CHECK.due("ACTS", z.count(6), 0);
        CHECK.due("undo", z.undo(), Check.STATE);
        int[] stands = {20, 16, 2, 20, 2};
        for (int w = 0; w < 5; w++) {
            CHECK.due("stand " + w, z.stand(w), stands[w]);
        }
        CHECK.due("WEEK", z.count(3), 1);
        CHECK.due("BANKED", z.person(0, 2), 4);
        CHECK.due("PURSE", z.person(0, 0), 35);
        CHECK.due("KNOWN", z.speech(0, 6), 0);
        CHECK.due("KNOWN", z.speech(1, 6), 7);
        imagesOfTwo();
    }

    private static void imagesOfTwo() {
        CHECK.of("restore: The DUCHY is as an IMAGE kept it (its law, PEOPLE and SPEECHES too)");
        CrierWeeks x = CHECK.told("c9,3;z5,1;n0,1,0;");
        x.image(0);
        CHECK.due("another DUCHY", Check.read(x, TOWN), 4);
        x.image(1);
        x.weeks(1);
        CHECK.due("the first", x.restore(0), 1);
        CHECK.due("PEOPLE", x.count(1), 1);
        CHECK.due("SPEECHES", x.count(2), 1);
        CHECK.due("RATION", x.stand(3), 9);
        CHECK.due("PRICE", x.stand(2), 3);
        CHECK.due("INCOME", x.person(0, 1), 1);
        CHECK.due("no SPEECH 1", x.kind(1), Check.BAD);
        CHECK.due("the second", x.restore(1), 1);
        CHECK.due("PEOPLE", x.count(1), 3);
        CHECK.due("WHO", x.speech(2, 0), 2);
        CHECK.due("NEEDS", x.speech(3, 2), 1);
        CHECK.due("WEEK", x.count(3), 0);
        CHECK.of("image: in place of the one kept before");
        x.weeks(2);
        x.image(1);
        x.weeks(2);
        x.restore(1);
        CHECK.due("WEEK", x.count(3), 2);
        x.weeks(2);
        x.restore(1);
        CHECK.due("what is done then does not change it", x.count(3), 2);
    }

    private static void asking() {
        CHECK.of("kind: The KIND of a SPEECH, as told (1 to 5). BAD");
        CrierWeeks x = town();
        CHECK.bounds("kind", 0, 3, s -> x.kind(s));
        int[] kinds = {1, 4, 5, 2};
        for (int s = 0; s < 4; s++) {
            CHECK.due("kind " + s, x.kind(s), kinds[s]);
        }
        CHECK.of("as: A SPEECH is taken as one of a KIND (0 .. 5): its number. BAD; KIND: it is no such one");
        CHECK.bounds("SPEECH", 0, 3, s -> x.as(s, 0));
        CHECK.bounds("KIND", 0, 5, k -> x.as(0, k));
        CHECK.due("SPEECH", x.as(3, 0), 3);
        CHECK.due("BIRTH", x.as(3, 2), 3);
        CHECK.due("no STAMMER", x.as(3, 3), Check.KIND);
        CHECK.due("a NOTICE is no BIRTH", x.as(0, 2), Check.KIND);
        CHECK.of("ask: An ASK (0, 1) of a SPEECH. BAD");
        CHECK.bounds("SPEECH", 0, 3, s -> x.ask(s, 0));
        CHECK.bounds("what", 0, 1, w -> x.ask(0, w));
    }

    private static void trace() {
        CHECK.of("trace: Number i of THE TRACE; NONE");
        CrierWeeks x = town();
        CHECK.due("none yet", x.trace(0), Check.NONE);
        x.ask(3, 0);
        int[] longest = {12, 11, 10, 24, 21, 20};
        for (int i = 0; i < 6; i++) {
            CHECK.due("trace " + i, x.trace(i), longest[i]);
        }
        for (int i : new int[] {-1, 6, 15, 16, 17, Check.LEAST, Check.MOST}) {
            CHECK.due("trace " + i, x.trace(i), Check.NONE);
        }
        CHECK.of("ask: THE TRACE is empty ahead of it");
        x.ask(0, 1);
        CHECK.due("trace 0", x.trace(0), 21);
        CHECK.due("trace 1", x.trace(1), 20);
        CHECK.due("nothing of the one before", x.trace(2), Check.NONE);
        CHECK.of("ask: BAD (THE TRACE stays)");
        CHECK.due("what 2", x.ask(0, 2), Check.BAD);
        CHECK.due("no such SPEECH", x.ask(4, 0), Check.BAD);
        CHECK.due("trace 0", x.trace(0), 21);
        CHECK.due("trace 1", x.trace(1), 20);
    }

    private static void count() {
        CHECK.of("count: How many: 0 ROWS .. 7 bytes on the tape. BAD");
        CrierWeeks x = town();
        CHECK.bounds("what", 0, 7, w -> x.count(w));
        x.weeks(3);
        x.say(0);
        x.letOut(1);
        x.feed('c');
        x.feed('c');
        int[] due = {2, 3, 4, 3, 12, 59, 5, 2};
        for (int w = 0; w < 8; w++) {
            CHECK.due("count " + w, x.count(w), due[w]);
        }
        for (int r = 0; r < 8; r++) {
            x.row(r, 0, 0);
        }
        CHECK.due("8 ROWS", x.count(0), 8);
    }

    /** A call, and the number that status() is due to tell behind it. */
    private static void tells(CrierWeeks x, String call, int status, ToLongFunction<CrierWeeks> made) {
        made.applyAsLong(x);
        CHECK.due("status behind " + call, x.status(), status);
    }

    private static void status() {
        CHECK.of("status: Of the latest call with a ROW, or as(): the number of its FINDING; 0: it had none, or there was none");
        CrierWeeks x = CHECK.told(TOWN);
        CHECK.due("there was none", x.status(), 0);
        tells(x, "NULL of set", 1, y -> y.set(0, 0, 0));
        tells(x, "row", 0, y -> y.row(0, 0, 2));
        tells(x, "PLACE of set", 2, y -> y.set(0, 2, 0));
        tells(x, "set", 0, y -> y.set(0, 0, 1));
        tells(x, "SIZE of row", 4, y -> y.row(1, 0, -1));
        tells(x, "row", 0, y -> y.row(1, 1, 2));
        tells(x, "STORE of copy", 5, y -> y.copy(0, 0, 1, 0, 1));
        tells(x, "copy", 0, y -> y.copy(0, 0, 0, 0, 1));
        tells(x, "PLACE of copy", 2, y -> y.copy(0, 0, 0, 0, 3));
        tells(x, "drop", 0, y -> y.drop(1));
        tells(x, "NULL of drop", 1, y -> y.drop(1));
        tells(x, "as", 0, y -> y.as(0, 1));
        tells(x, "KIND of as", 3, y -> y.as(0, 2));
        tells(x, "thrift", 0, y -> y.thrift(0, 0, 0, 0, 1));
        tells(x, "KIND of thrift", 3, y -> y.thrift(0, 0, 0, 1, 1));
        tells(x, "thrift, NONE", 0, y -> y.thrift(0, 60, 0, 0, 1));
        tells(x, "NULL of thrift", 1, y -> y.thrift(0, 0, 5, 0, 1));
        tells(x, "who", 0, y -> y.who(0, 0, 0, 0, 1));
        tells(x, "PLACE of who", 2, y -> y.who(0, 0, 0, 2, 1));
        tells(x, "priced", 0, y -> y.priced(0, 0, 0, 0, 1));
        tells(x, "KIND of priced", 3, y -> y.priced(0, 0, 0, 1, 1));
        statusStays(x);
    }

    private static void statusStays(CrierWeeks x) {
        CHECK.of("status: of the latest call that was not BAD, STATE, FULL");
        tells(x, "BAD row", 3, y -> y.row(0, 0, 41));
        tells(x, "BAD set", 3, y -> y.set(8, 0, 0));
        tells(x, "BAD copy", 3, y -> y.copy(8, 0, 0, 0, 0));
        tells(x, "BAD drop", 3, y -> y.drop(8));
        tells(x, "BAD thrift", 3, y -> y.thrift(0, 61, 0, 0, 1));
        tells(x, "BAD who", 3, y -> y.who(0, 2, 0, 0, 1));
        tells(x, "BAD priced", 3, y -> y.priced(0, 0, 0, 0, 0));
        tells(x, "BAD as", 3, y -> y.as(0, 6));
        CHECK.of("status: of the latest call with a ROW, or as() (of no other)");
        tells(x, "weeks", 3, y -> y.weeks(1));
        tells(x, "say", 3, y -> y.say(0));
        tells(x, "STATE of say", 3, y -> y.say(0));
        tells(x, "buy", 3, y -> y.buy(0, 1));
        tells(x, "letOut", 3, y -> y.letOut(1));
        tells(x, "price", 3, y -> y.price(3));
        tells(x, "undo", 3, y -> y.undo());
        tells(x, "feed", 3, y -> y.feed(1));
        tells(x, "a FAULT", 3, y -> y.duchy());
        tells(x, "duchy", 3, y -> Check.read(y, TOWN));
        tells(x, "fault", 3, y -> y.fault());
        tells(x, "speech", 3, y -> y.speech(0, 0));
        tells(x, "person", 3, y -> y.person(0, 0));
        tells(x, "stand", 3, y -> y.stand(0));
        tells(x, "purse", 3, y -> y.purse(0, 0));
        tells(x, "hill", 3, y -> y.hill(0));
        tells(x, "known", 3, y -> y.known(0, 0));
        tells(x, "allKnow", 3, y -> y.allKnow(0));
        tells(x, "when", 3, y -> y.when(0));
        tells(x, "most", 3, y -> y.most(0));
        tells(x, "order", 3, y -> y.order(0));
        tells(x, "clear", 3, y -> y.clear());
        tells(x, "deaf", 3, y -> y.deaf(0, 0, 0, 0));
        tells(x, "share", 3, y -> y.share(0, 0));
        tells(x, "heard", 3, y -> y.heard(0, 0, 0, 0, 0));
        tells(x, "drawn", 3, y -> y.drawn(0, 1, 0));
        tells(x, "image", 3, y -> y.image(0));
        tells(x, "restore", 3, y -> y.restore(0));
        tells(x, "kind", 3, y -> y.kind(0));
        tells(x, "ask", 3, y -> y.ask(0, 0));
        tells(x, "trace", 3, y -> y.trace(0));
        tells(x, "count", 3, y -> y.count(0));
        tells(x, "status", 3, y -> y.status());
    }
}
