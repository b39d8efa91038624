import java.util.ArrayList;
import java.util.List;
import java.util.function.Supplier;
import java.util.function.ToLongFunction;

/**
 * "What is refused, or found, changes nothing but status()": of two objects that were made alike one gets a
 * call that is refused, or found; then all that can be seen of both is compared. A call that is FORETOLD or
 * asked changes nothing either. As all is seen by calls that change it, each such call gets two new objects.
 */
public final class RefusalsTest {
    private static final Check CHECK = new Check("refusals");
    private static final String TOWN = "c20,2;z40,3;z30,1;z1,0;n0,9,0;w1,5,0;e2,6,2;s0,12,0;";
    private static final int SPEECHES = 4, PEOPLE = 3;

    public static void main(String[] args) {
        CHECK.of("What is refused changes nothing: BAD");
        bad();
        CHECK.of("What is refused changes nothing: STATE");
        state();
        CHECK.of("What is refused changes nothing: FULL");
        full();
        CHECK.of("What is found changes nothing but status()");
        found();
        CHECK.of("FORETOLD (nothing changes)");
        foretold();
        CHECK.of("What is asked changes nothing");
        asked();
        CHECK.of("What is refused changes nothing, without a DUCHY");
        withoutDuchy();
        CHECK.end();
    }

    /** Said, bought, let out, at another price; two images, three rows, half a text, a trace, a status of 2. */
    private static CrierWeeks town() {
        CrierWeeks x = CHECK.told(TOWN);
        x.weeks(2);
        x.image(0);
        x.say(0);
        x.buy(1, 3);
        x.image(1);
        x.letOut(4);
        x.price(3);
        x.row(0, 0, 3);
        x.set(0, 0, 7);
        x.set(0, 2, 5);
        x.row(1, 2, 2);
        x.set(1, 0, 800);
        x.row(6, 1, 1);
        x.set(6, 0, 1);
        x.ask(1, 1);
        Check.feed(x, "c9,9;z9,9;");
        x.set(0, 3, 0);
        return x;
    }

    /** A text to its end, then signs that cannot stand there: what is on the tape is seen by the FAULT's place. */
    private static CrierWeeks fullTape() {
        CrierWeeks x = CHECK.told(TOWN);
        x.weeks(2);
        Check.feed(x, TOWN + "#".repeat(120 - TOWN.length()));
        return x;
    }

    private static CrierWeeks lateWeeks() {
        CrierWeeks x = CHECK.told(TOWN);
        for (int i = 0; i < 41; i++) {
            x.weeks(24);
        }
        x.weeks(15);
        return x;
    }

    private static CrierWeeks bare() {
        CrierWeeks x = new CrierWeeks();
        x.row(0, 0, 2);
        x.set(0, 1, 5);
        x.row(6, 1, 1);
        x.set(6, 0, 1);
        Check.feed(x, "c9,9;z9,9;");
        x.drop(7);
        return x;
    }

    private static void look(CrierWeeks x, List<Long> seen) {
        for (int w = 0; w < 8; w++) {
            seen.add((long) x.count(w));
        }
        for (int w = 0; w < 5; w++) {
            seen.add((long) x.stand(w));
            for (int p = 0; p < PEOPLE; p++) {
                seen.add((long) x.person(p, w));
            }
        }
        for (int s = 0; s < SPEECHES; s++) {
            seen.add((long) x.kind(s));
            for (int w = 0; w < 9; w++) {
                seen.add((long) x.speech(s, w));
            }
        }
    }

    private static void lookAtRows(CrierWeeks x, List<Long> seen) {
        for (int r = 0; r < 8; r++) {
            for (int i = 0; i < 3; i++) {
                seen.add((long) x.priced(r, i, 6, 0, 1));
            }
            seen.add((long) x.set(r, 0, 70000));
            seen.add((long) x.drop(r));
        }
    }

    /** Not all 24: an object answers 512 calls. */
    private static void lookBack(CrierWeeks x, List<Long> seen) {
        int acts = Math.min(8, x.count(6));
        for (int i = 0; i <= acts; i++) {
            seen.add((long) x.undo());
            seen.add((long) x.count(3));
            seen.add((long) x.stand(0));
            seen.add((long) x.stand(1));
            seen.add((long) x.stand(2));
            seen.add((long) x.stand(4));
            seen.add((long) x.person(1, 0));
            seen.add((long) x.person(1, 2));
        }
    }

    /** All that can be seen; what comes of it is of no further use. */
    private static List<Long> all(CrierWeeks x, boolean statusToo) {
        List<Long> seen = new ArrayList<>();
        seen.add(statusToo ? (long) x.status() : 0);
        seen.add((long) x.fault());
        for (int i = 0; i <= 16; i++) {
            seen.add((long) x.trace(i));
        }
        look(x, seen);
        lookAtRows(x, seen);
        lookBack(x, seen);
        Check.feed(x, "n0,9,0;");
        seen.add((long) x.count(7));
        seen.add((long) x.duchy());
        seen.add((long) x.fault());
        for (int k = 0; k < 2; k++) {
            seen.add((long) x.restore(k));
            look(x, seen);
        }
        return seen;
    }

    private static void stays(String call, Supplier<CrierWeeks> made, long due, ToLongFunction<CrierWeeks> called) {
        CrierWeeks one = made.get();
        CrierWeeks other = made.get();
        CHECK.due(call, called.applyAsLong(other), due);
        boolean finding = due <= Check.NULL && due >= Check.STORE;
        if (finding) {
            CHECK.due(call + ": status", other.status(), -1000010 - due);
        }
        List<Long> before = all(one, !finding);
        List<Long> behind = all(other, !finding);
        int i = 0;
        while (i < before.size() - 1 && i < behind.size() - 1 && before.get(i).equals(behind.get(i))) {
            i++;
        }
        CHECK.due(call + ": what is seen, number " + i, behind.get(i), before.get(i));
    }

    private static void bad(String call, ToLongFunction<CrierWeeks> called) {
        stays(call, RefusalsTest::town, Check.BAD, called);
    }

    private static void bad() {
        bad("row 8", x -> x.row(8, 0, 1));
        bad("lane 3", x -> x.row(0, 3, 1));
        bad("41 items", x -> x.row(0, 0, 41));
        bad("set row 8", x -> x.set(8, 0, 1));
        bad("copy row 8", x -> x.copy(8, 0, 0, 0, 1));
        bad("copy to row 8", x -> x.copy(0, 0, 8, 0, 1));
        bad("drop row 8", x -> x.drop(8));
        bad("feed 256", x -> x.feed(256));
        bad("feed -1", x -> x.feed(-1));
        bad("weeks 0", x -> x.weeks(0));
        bad("weeks 25", x -> x.weeks(25));
        bad("say 4", x -> x.say(4));
        bad("buyer 3", x -> x.buy(3, 1));
        bad("buy 0", x -> x.buy(0, 0));
        bad("buy 61", x -> x.buy(0, 61));
        bad("let out 0", x -> x.letOut(0));
        bad("let out 100", x -> x.letOut(100));
        bad("price 0", x -> x.price(0));
        bad("price 10", x -> x.price(10));
        bad("speech 4", x -> x.speech(4, 0));
        bad("person 3", x -> x.person(3, 0));
        bad("stand 5", x -> x.stand(5));
        bad("purse 61", x -> x.purse(0, 61));
        bad("hill 61", x -> x.hill(61));
        bad("known 61", x -> x.known(0, 61));
        bad("all know 4", x -> x.allKnow(4));
        bad("when 4", x -> x.when(4));
        bad("most 3", x -> x.most(3));
        bad("order -2", x -> x.order(-2));
        bad("deaf 31", x -> x.deaf(0, 0, 31, 0));
        bad("share 100", x -> x.share(0, 100));
        bad("thrift 61", x -> x.thrift(0, 61, 0, 0, 1));
        bad("who 2", x -> x.who(0, 2, 0, 0, 1));
        bad("priced 0", x -> x.priced(0, 0, 0, 0, 0));
        bad("heard 31", x -> x.heard(0, 0, 31, 0, 0));
        bad("drawn 61", x -> x.drawn(61, 1, 0));
        bad("image 2", x -> x.image(2));
        bad("restore 2", x -> x.restore(2));
        bad("kind 4", x -> x.kind(4));
        bad("as 6", x -> x.as(0, 6));
        bad("ask 2", x -> x.ask(0, 2));
        bad("ask of 4", x -> x.ask(4, 0));
        bad("count 8", x -> x.count(8));
    }

    private static void state(String call, ToLongFunction<CrierWeeks> called) {
        stays(call, RefusalsTest::town, Check.STATE, called);
    }

    private static void state() {
        state("SAID", x -> x.say(0));
        state("not enough in the PURSE", x -> x.say(2));
        state("not enough LEFT", x -> x.say(3));
        state("not so many LEFT", x -> x.buy(0, 13));
        state("not so many in the PURSE", x -> x.buy(2, 1));
        state("not so many in the HILL", x -> x.letOut(37));
        state("SAID, when", x -> x.when(0));
        stays("LEFT above 99", () -> {
            CrierWeeks x = town();
            x.weeks(3);
            return x;
        }, Check.STATE, x -> x.letOut(80));
        stays("BANKED above 99", () -> {
            CrierWeeks x = CHECK.told("c60,1;z99,20;z9,0;n0,1,0;");
            x.buy(0, 60);
            x.weeks(5);
            return x;
        }, Check.STATE, x -> x.buy(0, 40));
        stays("no ACT", () -> CHECK.told(TOWN), Check.STATE, x -> x.undo());
        stays("no IMAGE", () -> CHECK.told(TOWN), Check.STATE, x -> x.restore(1));
    }

    private static void full() {
        stays("a full tape", RefusalsTest::fullTape, Check.FULL, x -> x.feed('c'));
        stays("WEEK 1000", RefusalsTest::lateWeeks, Check.FULL, x -> x.weeks(1));
        stays("WEEK 1000 and more", RefusalsTest::lateWeeks, Check.FULL, x -> x.weeks(24));
    }

    private static void found(String call, int due, ToLongFunction<CrierWeeks> called) {
        stays(call, RefusalsTest::town, due, called);
    }

    private static void found() {
        found("fewer than none", Check.SIZE, x -> x.row(0, 2, -1));
        found("fewer than none of a ROW that is missing", Check.SIZE, x -> x.row(3, 2, -1));
        found("set of none", Check.NULL, x -> x.set(3, 0, 1));
        found("set -1", Check.PLACE, x -> x.set(0, -1, 9));
        found("set 3 of 3", Check.PLACE, x -> x.set(0, 3, 9));
        found("copy of none", Check.NULL, x -> x.copy(3, 0, 0, 0, 1));
        found("copy to none", Check.NULL, x -> x.copy(0, 0, 3, 0, 1));
        found("copy of two LANES", Check.STORE, x -> x.copy(0, 0, 1, 0, 1));
        found("copy beyond an end", Check.PLACE, x -> x.copy(0, 0, 0, 1, 3));
        found("drop of none", Check.NULL, x -> x.drop(3));
        found("thrift of none", Check.NULL, x -> x.thrift(0, 0, 3, 0, 1));
        found("thrift beyond the end", Check.PLACE, x -> x.thrift(0, 0, 0, 3, 1));
        found("thrift by 0", Check.KIND, x -> x.thrift(0, 0, 0, 0, 3));
        found("who of none", Check.NULL, x -> x.who(0, 0, 3, 0, 1));
        found("who beyond the end", Check.PLACE, x -> x.who(0, 0, 0, 3, 1));
        found("priced of none", Check.NULL, x -> x.priced(3, 0, 0, 0, 1));
        found("priced by none", Check.NULL, x -> x.priced(0, 0, 3, 0, 1));
        found("priced beyond the end", Check.PLACE, x -> x.priced(0, 0, 0, 2, 2));
        found("priced by 0", Check.KIND, x -> x.priced(0, 0, 0, 0, 2));
        found("a notice as a whisper", Check.KIND, x -> x.as(0, 4));
    }

    private static void foretold(String call, long due, ToLongFunction<CrierWeeks> called) {
        stays(call, RefusalsTest::town, due, called);
    }

    /** Of the HILL 36, LEFT 12, PURSES 28, 26, 1, the notice SAID. */
    private static void foretold() {
        foretold("purse", 88, x -> x.purse(0, 20));
        foretold("hill", 68, x -> x.hill(2));
        foretold("known", 7, x -> x.known(0, 9));
        foretold("all know", 0, x -> x.allKnow(0));
        foretold("when", Check.NONE, x -> x.when(2));
        foretold("most", 2, x -> x.most(0));
        foretold("most, words", 0, x -> x.most(1));
        foretold("order", Check.NONE, x -> x.order(-1));
        foretold("clear", 1, x -> x.clear());
        foretold("deaf", Check.NONE, x -> x.deaf(1, 0, 9, 0));
        foretold("share", 9, x -> x.share(0, 9));
        foretold("heard", 1, x -> x.heard(1, 0, 9, 5, 0));
        foretold("drawn", 3, x -> x.drawn(9, 7, 0));
        String soon = "c10,1;z40,3;z30,1;z9,0;n0,9,0;n1,5,0;e2,6,2;";
        stays("order that is found", () -> CHECK.told(soon), 1, x -> x.order(-1));
        stays("the third of an order", () -> CHECK.told(soon), 2, x -> x.order(2));
    }

    private static void asked() {
        foretold("kind", 4, x -> x.kind(1));
        foretold("count", 10, x -> x.count(7));
        foretold("status", 2, x -> x.status());
        foretold("fault", 0, x -> x.fault());
        foretold("trace", 23, x -> x.trace(0));
        foretold("speech", 1, x -> x.speech(0, 8));
        foretold("person", 3, x -> x.person(1, 2));
        foretold("stand", 3, x -> x.stand(2));
    }

    private static void withoutDuchy(String call, long due, ToLongFunction<CrierWeeks> called) {
        stays(call, RefusalsTest::bare, due, called);
    }

    private static void withoutDuchy() {
        withoutDuchy("undo", Check.STATE, x -> x.undo());
        withoutDuchy("weeks", Check.STATE, x -> x.weeks(1));
        withoutDuchy("letOut", Check.STATE, x -> x.letOut(1));
        withoutDuchy("price", Check.STATE, x -> x.price(1));
        withoutDuchy("image", Check.STATE, x -> x.image(0));
        withoutDuchy("restore", Check.STATE, x -> x.restore(0));
        withoutDuchy("drawn", Check.STATE, x -> x.drawn(1, 1, 0));
        withoutDuchy("order", Check.STATE, x -> x.order(0));
        withoutDuchy("most", Check.STATE, x -> x.most(0));
        withoutDuchy("say", Check.BAD, x -> x.say(0));
        withoutDuchy("buy", Check.BAD, x -> x.buy(0, 1));
        withoutDuchy("thrift", Check.BAD, x -> x.thrift(0, 0, 0, 1, 1));
        withoutDuchy("who", Check.BAD, x -> x.who(0, 0, 0, 1, 1));
        withoutDuchy("ask", Check.BAD, x -> x.ask(0, 0));
        withoutDuchy("as", Check.BAD, x -> x.as(0, 0));
    }
}
