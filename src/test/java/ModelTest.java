import java.math.BigInteger;
import java.util.ArrayDeque;
import java.util.ArrayList;
import java.util.List;
import java.util.Random;

/**
 * Drawn runs of calls on an object and on a second model of the document, which takes everything
 * one step at a time: WEEKS one by one, all orders, all sets, rows that are Java's own arrays.
 */
public final class ModelTest {
    private static final int NONE = -1000000, BAD = -1000001, STATE = -1000002, FULL = -1000003;
    /** An object is used for at most 512 calls. */
    private static final int RUNS = 3000, CALLS = 512;

    public static void main(String[] args) {
        for (int run = 0; run < RUNS; run++) {
            new Run(run).go();
            if (Run.wrong > 20) {
                break;
            }
        }
        System.out.println(Run.wrong == 0 ? "model: all answers are as due" : "model: " + Run.wrong + " wrong");
        if (Run.wrong != 0) {
            System.exit(1);
        }
    }

    /** One run: both are asked the same. */
    private static final class Run {
        static int wrong;
        final Random random;
        final int number;
        final CrierWeeks x = new CrierWeeks();
        final Model m = new Model();
        final List<String> log = new ArrayList<>();
        boolean failed;

        Run(int itsNumber) {
            number = itsNumber;
            random = new Random(itsNumber);
        }

        void due(String call, long got, long want) {
            log.add(call + " = " + got);
            if (got != want && !failed && log.size() <= CALLS) {
                failed = true;
                wrong++;
                int from = Math.max(0, log.size() - 12);
                System.out.println("run " + number + " " + m.text + ": " + log.subList(from, log.size()) + " due is " + want);
            }
        }

        int up(int n) {
            return random.nextInt(n);
        }

        /** Mostly least .. most, now and then just beyond, seldom far beyond. */
        int num(int least, int most) {
            int odd = up(60);
            if (odd == 0) {
                return least - 1;
            }
            if (odd == 1) {
                return most + 1;
            }
            if (odd == 2) {
                int[] far = {Integer.MIN_VALUE, Integer.MAX_VALUE, 1 << 20, -1 << 20, 32};
                return far[up(far.length)];
            }
            return least + up(most - least + 1);
        }

        int pick(int... values) {
            return values[up(values.length)];
        }

        String text() {
            StringBuilder b = new StringBuilder();
            int people = 1 + up(5);
            int speeches = 1 + up(6);
            boolean rich = up(2) == 0;
            b.append('c').append(1 + up(60)).append(',').append(1 + up(rich ? 3 : 9)).append(';');
            for (int p = 0; p < people; p++) {
                b.append('z').append(up(100)).append(',').append(up(rich ? 21 : 4)).append(';');
            }
            for (int s = 0; s < speeches; s++) {
                b.append("nbswewe".charAt(up(7))).append(up(people)).append(',').append(1 + up(30));
                b.append(',').append(up(s + 1)).append(';');
            }
            return up(4) == 0 ? spoiled(b) : b.toString();
        }

        String spoiled(StringBuilder b) {
            String letters = "cznbswex,;0123456789 Z/:";
            for (int k = 0; k <= up(2); k++) {
                int at = up(b.length());
                int how = up(4);
                if (how == 0) {
                    b.deleteCharAt(at);
                } else if (how == 1) {
                    b.insert(at, letters.charAt(up(letters.length())));
                } else if (how == 2) {
                    b.setCharAt(at, letters.charAt(up(letters.length())));
                } else if (up(2) == 0) {
                    b.setLength(at + 1);
                } else {
                    b.append(up(2) == 0 ? "n0,1,0;n0,1,0;" : "z0,0;");
                }
            }
            return b.toString();
        }

        void tell() {
            String text = text();
            for (int i = 0; i < text.length(); i++) {
                int letter = text.charAt(i);
                due("feed " + letter, x.feed(letter), m.feed(letter));
            }
            due("duchy", x.duchy(), m.duchy());
            due("fault", x.fault(), m.fault);
        }

        void go() {
            tell();
            while (log.size() < CALLS && !failed) {
                int what = up(100);
                if (what < 3) {
                    rowOfPrices();
                } else if (what < 12) {
                    rowCall();
                } else if (what < 45) {
                    act();
                } else if (what < 46) {
                    tell();
                } else if (what < 80) {
                    foretell();
                } else {
                    look();
                }
            }
        }

        void rowCall() {
            int r = num(0, 7);
            int i = num(0, 5);
            switch (up(7)) {
                case 0: {
                    int lane = num(0, 2), n = pick(num(0, 8), num(0, 40));
                    due("row " + r + " " + lane + " " + n, x.row(r, lane, n), m.row(r, lane, n));
                    break;
                }
                case 1:
                    due("drop " + r, x.drop(r), m.drop(r));
                    break;
                case 2: {
                    int b = num(0, 7), j = num(0, 5), n = num(0, 6);
                    due("copy " + r + " " + i + " " + b + " " + j + " " + n, x.copy(r, i, b, j, n), m.copy(r, i, b, j, n));
                    break;
                }
                default: {
                    int v = pick(1 + up(9), 1 + up(9), up(6), m.people.size(), random.nextInt());
                    due("set " + r + " " + i + " " + v, x.set(r, i, v), m.set(r, i, v));
                }
            }
            due("status", x.status(), m.status);
        }

        /** Rows that are as the calls want them, so that these get as far as their answers. */
        void rowOfPrices() {
            int r = up(8), lane = up(3), n = 1 + up(12), p = num(0, 4), s = num(0, 5);
            boolean counts = up(4) == 0;
            due("row " + r, x.row(r, lane, n), m.row(r, lane, n));
            for (int i = 0; i < n; i++) {
                int v = up(counts ? 20 : 200) == 0 ? up(12) : counts ? m.people.size() : 1 + up(9);
                due("set " + r + " " + i + " " + v, x.set(r, i, v), m.set(r, i, v));
            }
            for (int k = 0; k < 4; k++) {
                int i = up(n), weeks = 1 + up(n - i), w = pick(up(10), up(61)), what = up(2);
                due("thrift " + p + " " + w + " " + i + " " + weeks, x.thrift(p, w, r, i, weeks), m.thrift(p, w, r, i, weeks));
                due("who " + s + " " + what, x.who(s, what, r, i, weeks), m.who(s, what, r, i, weeks));
                due("priced " + i + " " + weeks, x.priced(r, 0, r, i, weeks), m.priced(r, 0, r, i, weeks));
                due("status", x.status(), m.status);
            }
        }

        void act() {
            switch (up(8)) {
                case 0: {
                    int n = pick(num(1, 3), num(1, 24));
                    due("weeks " + n, x.weeks(n), m.weeks(n));
                    break;
                }
                case 1:
                case 2: {
                    int s = num(0, 5);
                    due("say " + s, x.say(s), m.say(s));
                    break;
                }
                case 3: {
                    int p = num(0, 4), n = pick(num(1, 9), num(1, 60));
                    due("buy " + p + " " + n, x.buy(p, n), m.buy(p, n));
                    break;
                }
                case 4: {
                    int n = pick(num(1, 30), num(1, 99));
                    due("letOut " + n, x.letOut(n), m.letOut(n));
                    break;
                }
                case 5: {
                    int v = num(1, 9);
                    due("price " + v, x.price(v), m.price(v));
                    break;
                }
                case 6: {
                    due("undo", x.undo(), m.undo());
                    break;
                }
                default: {
                    int k = num(0, 1);
                    if (up(2) == 0) {
                        due("image " + k, x.image(k), m.image(k));
                    } else if (up(2) == 0) {
                        due("restore " + k, x.restore(k), m.restore(k));
                    }
                }
            }
        }

        void foretell() {
            int s = num(0, 5), p = num(0, 4), n = pick(num(0, 3), num(0, 60)), few = pick(num(0, 3), num(0, 30));
            int what = num(0, 1);
            switch (up(16)) {
                case 0: due("purse " + p + " " + n, x.purse(p, n), m.purse(p, n)); break;
                case 1: due("hill " + n, x.hill(n), m.hill(n)); break;
                case 2: due("known " + s + " " + n, x.known(s, n), m.known(s, n)); break;
                case 3: due("allKnow " + s, x.allKnow(s), m.allKnow(s)); break;
                case 4: due("when " + s, x.when(s), m.when(s)); break;
                case 5: {
                    int w = num(0, 2);
                    due("most " + w, x.most(w), m.most(w));
                    break;
                }
                case 6: {
                    int k = num(-1, 5);
                    due("order " + k, x.order(k), m.order(k));
                    break;
                }
                case 7: due("clear", x.clear(), m.clear()); break;
                case 8: due("deaf " + s + " " + p + " " + few + " " + what, x.deaf(s, p, few, what), m.deaf(s, p, few, what)); break;
                case 9: {
                    int w = num(0, 99);
                    due("share " + p + " " + w, x.share(p, w), m.share(p, w));
                    break;
                }
                case 10:
                case 11: {
                    int w = pick(num(0, 9), num(0, 60)), r = num(0, 7), i = num(0, 3), k = pick(num(1, 3), num(1, 12));
                    due("thrift " + p + " " + w + " " + r + " " + i + " " + k, x.thrift(p, w, r, i, k), m.thrift(p, w, r, i, k));
                    due("status", x.status(), m.status);
                    break;
                }
                case 12: {
                    int r = num(0, 7), i = num(0, 3), k = pick(num(1, 2), num(1, 12));
                    due("who " + s + " " + what + " " + r + " " + i + " " + k, x.who(s, what, r, i, k), m.who(s, what, r, i, k));
                    due("status", x.status(), m.status);
                    break;
                }
                case 13: {
                    int r = num(0, 7), i = num(0, 3), o = num(0, 7), j = num(0, 3), k = pick(num(1, 3), num(1, 12));
                    due("priced " + r + " " + i + " " + o + " " + j + " " + k, x.priced(r, i, o, j, k), m.priced(r, i, o, j, k));
                    due("status", x.status(), m.status);
                    break;
                }
                case 14: {
                    int c = num(0, 10);
                    due("heard " + s + " " + p + " " + few + " " + c + " " + what, x.heard(s, p, few, c, what), m.heard(s, p, few, c, what));
                    break;
                }
                default: {
                    int seed = num(1, 999999);
                    due("drawn " + n + " " + seed + " " + what, x.drawn(n, seed, what), m.drawn(n, seed, what));
                }
            }
        }

        void look() {
            int s = num(0, 5), p = num(0, 4);
            switch (up(8)) {
                case 0:
                case 1: {
                    int w = num(0, 8);
                    due("speech " + s + " " + w, x.speech(s, w), m.speech(s, w));
                    break;
                }
                case 2: {
                    int w = num(0, 4);
                    due("person " + p + " " + w, x.person(p, w), m.person(p, w));
                    break;
                }
                case 3: {
                    int w = num(0, 4);
                    due("stand " + w, x.stand(w), m.stand(w));
                    break;
                }
                case 4: due("kind " + s, x.kind(s), m.kind(s)); break;
                case 5: {
                    int k = num(0, 5);
                    due("as " + s + " " + k, x.as(s, k), m.as(s, k));
                    due("status", x.status(), m.status);
                    break;
                }
                case 6: {
                    int w = num(0, 1);
                    due("ask " + s + " " + w, x.ask(s, w), m.ask(s, w));
                    for (int i = -1; i < 9; i++) {
                        due("trace " + i, x.trace(i), m.trace(i));
                    }
                    break;
                }
                default:
                    for (int w = -1; w < 9; w++) {
                        due("count " + w, x.count(w), m.count(w));
                    }
            }
        }
    }

    /** How a SPEECH is asked: Java's own kinds, with what is lent as default methods. */
    private interface Speech {
        Told told();

        default int size() {
            told().model.trace.add(10);
            return told().length;
        }

        default int mark() {
            told().model.trace.add(20);
            return told().number;
        }
    }

    private static final class Told {
        Model model;
        int number, kind, who, length, needs;
    }

    private abstract static class Any implements Speech {
        final Told told;

        Any(Told t) {
            told = t;
        }

        public Told told() {
            return told;
        }
    }

    private static class Notice extends Any {
        Notice(Told t) {
            super(t);
        }

        public int size() {
            told.model.trace.add(11);
            int lent = super.size();
            return lent + mark();
        }

        public int mark() {
            told.model.trace.add(21);
            return super.mark() + told.model.now.price;
        }
    }

    private static final class Birth extends Notice {
        Birth(Told t) {
            super(t);
        }

        public int size() {
            told.model.trace.add(12);
            return 0 - super.size();
        }

        public int mark() {
            told.model.trace.add(24);
            return super.mark() * 2;
        }
    }

    private static final class Stammer extends Notice {
        Stammer(Told t) {
            super(t);
        }

        public int mark() {
            told.model.trace.add(22);
            return super.mark() - 1000;
        }
    }

    private static class Whisper extends Any {
        Whisper(Told t) {
            super(t);
        }

        public int size() {
            told.model.trace.add(13);
            return super.size() - 100;
        }

        public int mark() {
            told.model.trace.add(23);
            int lent = super.mark();
            return lent - size();
        }
    }

    private static final class Echo extends Whisper {
        Echo(Told t) {
            super(t);
        }

        public int size() {
            told.model.trace.add(14);
            return super.size() * 2;
        }
    }

    private static final class Now {
        int week, left, hill, price;
        int[] purse, banked;
        boolean[] said;
        boolean[][] known;

        Now twin() {
            Now n = new Now();
            n.week = week;
            n.left = left;
            n.hill = hill;
            n.price = price;
            n.purse = purse.clone();
            n.banked = banked.clone();
            n.said = said.clone();
            n.known = new boolean[known.length][];
            for (int s = 0; s < known.length; s++) {
                n.known[s] = known[s].clone();
            }
            return n;
        }
    }

    private static final class Kept {
        int ration;
        List<Integer> people;
        List<Told> speeches;
        Now now;
    }

    private static final class Fault extends Exception {
        private static final long serialVersionUID = 1L;
        final int number, place;

        Fault(int itsNumber, int itsPlace) {
            number = itsNumber;
            place = itsPlace;
        }
    }

    private static final class Model {
        final Object[] rows = new Object[8];
        final Kept[] images = new Kept[2];
        final ArrayDeque<Now> past = new ArrayDeque<>();
        final List<Integer> trace = new ArrayList<>();
        String text = "";
        StringBuilder tape = new StringBuilder();
        int status, fault, ration;
        /** Incomes. */
        List<Integer> people = new ArrayList<>();
        List<Told> speeches = new ArrayList<>();
        Now now;

        // ---- rows

        static boolean out(int v, int least, int most) {
            return v < least || v > most;
        }

        int found(int n) {
            status = n;
            return -1000010 - n;
        }

        int fine(int v) {
            status = 0;
            return v;
        }

        int row(int r, int lane, int n) {
            if (out(r, 0, 7) || out(lane, 0, 2) || n > 40) {
                return BAD;
            }
            if (n < 0) {
                return found(4);
            }
            rows[r] = lane == 0 ? new byte[n] : lane == 1 ? new short[n] : new int[n];
            return fine(n);
        }

        int item(Object row, int i) {
            return row instanceof byte[] b ? b[i] : row instanceof short[] s ? s[i] : ((int[]) row)[i];
        }

        int length(Object row) {
            return java.lang.reflect.Array.getLength(row);
        }

        int set(int r, int i, int v) {
            if (out(r, 0, 7)) {
                return BAD;
            }
            Object row = rows[r];
            if (row == null) {
                return found(1);
            }
            try {
                if (row instanceof byte[] b) {
                    b[i] = (byte) v;
                } else if (row instanceof short[] s) {
                    s[i] = (short) v;
                } else {
                    ((int[]) row)[i] = v;
                }
            } catch (ArrayIndexOutOfBoundsException e) {
                return found(2);
            }
            return fine(item(row, i));
        }

        int copy(int a, int i, int b, int j, int n) {
            if (out(a, 0, 7) || out(b, 0, 7)) {
                return BAD;
            }
            try {
                System.arraycopy(rows[a], i, rows[b], j, n);
            } catch (NullPointerException e) {
                return found(1);
            } catch (ArrayStoreException e) {
                return found(5);
            } catch (IndexOutOfBoundsException e) {
                return found(2);
            }
            return fine(n);
        }

        int drop(int r) {
            if (out(r, 0, 7)) {
                return BAD;
            }
            if (rows[r] == null) {
                return found(1);
            }
            int n = length(rows[r]);
            rows[r] = null;
            return fine(n);
        }

        // ---- what is told

        int feed(int letter) {
            if (out(letter, 0, 255)) {
                return BAD;
            }
            if (tape.length() == 120) {
                return FULL;
            }
            tape.append((char) letter);
            return tape.length();
        }

        int at;

        char peek(String t) {
            return at < t.length() ? t.charAt(at) : '!';
        }

        void letter(String t, char c) throws Fault {
            if (peek(t) != c) {
                throw new Fault(1, at);
            }
            at++;
        }

        int figures(String t, int least, int most) throws Fault {
            int end = at;
            while (end < t.length() && Character.isDigit(t.charAt(end))) {
                end++;
            }
            if (end == at || end > at + 2) {
                throw new Fault(1, at);
            }
            int v = Integer.parseInt(t.substring(at, end));
            if (out(v, least, most)) {
                throw new Fault(2, at);
            }
            at = end;
            return v;
        }

        int duchy() {
            String t = tape.toString();
            tape = new StringBuilder();
            at = 0;
            try {
                parse(t);
            } catch (Fault f) {
                fault = f.number;
                return -1000100 - f.place;
            }
            text = t;
            return speeches.size();
        }

        void parse(String t) throws Fault {
            Now n = new Now();
            letter(t, 'c');
            int words = figures(t, 1, 60);
            letter(t, ',');
            n.price = figures(t, 1, 9);
            letter(t, ';');
            List<Integer> purses = new ArrayList<>(), incomes = new ArrayList<>();
            while (incomes.isEmpty() || peek(t) == 'z') {
                if (incomes.size() == 5) {
                    throw new Fault(3, at);
                }
                letter(t, 'z');
                purses.add(figures(t, 0, 99));
                letter(t, ',');
                incomes.add(figures(t, 0, 20));
                letter(t, ';');
            }
            List<Told> list = new ArrayList<>();
            while (list.isEmpty() || at < t.length()) {
                Told one = new Told();
                one.model = this;
                one.number = list.size();
                one.kind = " nbswe".indexOf(peek(t));
                if (one.kind < 1) {
                    throw new Fault(1, at);
                }
                if (list.size() == 6) {
                    throw new Fault(3, at);
                }
                at++;
                one.who = figures(t, 0, incomes.size() - 1);
                letter(t, ',');
                one.length = figures(t, 1, 30);
                letter(t, ',');
                one.needs = figures(t, 0, list.size());
                letter(t, ';');
                list.add(one);
            }
            n.left = words;
            n.purse = purses.stream().mapToInt(Integer::intValue).toArray();
            n.banked = new int[purses.size()];
            n.said = new boolean[list.size()];
            n.known = new boolean[list.size()][purses.size()];
            ration = words;
            people = incomes;
            speeches = list;
            now = n;
            past.clear();
        }

        // ---- what is done

        boolean noSpeech(int s) {
            return out(s, 0, speeches.size() - 1);
        }

        boolean noPerson(int p) {
            return out(p, 0, people.size() - 1);
        }

        int words(int s) {
            Told t = speeches.get(s);
            return t.kind == 1 ? t.length : t.kind == 2 ? t.length / 2 + t.length % 2 : t.kind == 3 ? t.length + t.length : 0;
        }

        int fromLeft(Now n, int s) {
            int own = n.banked[speeches.get(s).who];
            return own >= words(s) ? 0 : words(s) - own;
        }

        int crowns(Now n, int s) {
            Told t = speeches.get(s);
            return t.kind == 4 ? 1 : t.kind == 5 ? 1 + t.length : fromLeft(n, s) * n.price;
        }

        boolean can(Now n, int s) {
            return !n.said[s] && fromLeft(n, s) <= n.left && crowns(n, s) <= n.purse[speeches.get(s).who];
        }

        boolean[] firstKnown(int kind, int who, int deafOnes) {
            int all = people.size();
            boolean[] known = new boolean[all];
            for (int p = 0; p < all; p++) {
                boolean beside = p == (who + 1) % all || p == (who + all - 1) % all;
                known[p] = kind < 4 || p == who || beside && (deafOnes >> p & 1) == 0;
            }
            return known;
        }

        boolean[] aWeek(int kind, boolean[] before, int deafOnes) {
            boolean[] known = before;
            int all = people.size();
            for (int hop = 4; hop <= kind; hop++) {
                boolean[] next = known.clone();
                for (int p = 0; p < all; p++) {
                    if (known[(p + 1) % all] || known[(p + all - 1) % all]) {
                        next[p] |= (deafOnes >> p & 1) == 0;
                    }
                }
                known = next;
            }
            return known;
        }

        int speak(Now n, int s) {
            Told t = speeches.get(s);
            int w = fromLeft(n, s);
            int c = crowns(n, s);
            n.banked[t.who] -= Math.min(n.banked[t.who], words(s));
            n.left -= w;
            n.purse[t.who] -= c;
            n.said[s] = true;
            n.known[s] = firstKnown(t.kind, t.who, 0);
            return w;
        }

        void week(Now n) {
            for (Told t : speeches) {
                if (n.said[t.number]) {
                    n.known[t.number] = aWeek(t.kind, n.known[t.number], 0);
                }
            }
            n.hill = Math.min(999, n.hill + n.left);
            n.left = ration;
            for (int p = 0; p < people.size(); p++) {
                n.purse[p] = Math.min(99, n.purse[p] + people.get(p));
            }
            n.week++;
        }

        void act() {
            past.addLast(now.twin());
            if (past.size() > 24) {
                past.removeFirst();
            }
        }

        int undo() {
            if (past.isEmpty()) {
                return STATE;
            }
            now = past.removeLast();
            return past.size();
        }

        int weeks(int n) {
            if (now == null) {
                return STATE;
            }
            if (out(n, 1, 24)) {
                return BAD;
            }
            if (now.week + n > 999) {
                return FULL;
            }
            for (int w = 0; w < n; w++) {
                act();
                week(now);
            }
            return now.hill;
        }

        int say(int s) {
            if (noSpeech(s)) {
                return BAD;
            }
            if (!can(now, s)) {
                return STATE;
            }
            act();
            return speak(now, s);
        }

        int buy(int p, int n) {
            if (noPerson(p) || out(n, 1, 60)) {
                return BAD;
            }
            if (n > now.left || n * now.price > now.purse[p] || now.banked[p] + n > 99) {
                return STATE;
            }
            act();
            now.left -= n;
            now.purse[p] -= n * now.price;
            return now.banked[p] += n;
        }

        int letOut(int n) {
            if (now == null) {
                return STATE;
            }
            if (out(n, 1, 99)) {
                return BAD;
            }
            if (n > now.hill || now.left + n > 99) {
                return STATE;
            }
            act();
            now.hill -= n;
            return now.left += n;
        }

        int price(int v) {
            if (now == null) {
                return STATE;
            }
            if (out(v, 1, 9)) {
                return BAD;
            }
            act();
            int was = now.price;
            now.price = v;
            return was;
        }

        static int bits(boolean[] set) {
            int b = 0;
            for (int i = 0; i < set.length; i++) {
                b += set[i] ? 1 << i : 0;
            }
            return b;
        }

        boolean understands(Now n, int s, int p) {
            int needs = speeches.get(s).needs;
            return n.known[s][p] && (needs == s || n.known[needs][p]);
        }

        int understanders(Now n, int s) {
            int b = 0;
            for (int p = 0; p < people.size(); p++) {
                b += understands(n, s, p) ? 1 << p : 0;
            }
            return b;
        }

        int speech(int s, int what) {
            if (noSpeech(s) || out(what, 0, 8)) {
                return BAD;
            }
            Told t = speeches.get(s);
            int[] all = {t.who, t.length, t.needs == s ? NONE : t.needs, words(s), crowns(now, s), can(now, s) ? 1 : 0,
                bits(now.known[s]), understanders(now, s), now.said[s] ? 1 : 0};
            return all[what];
        }

        int person(int p, int what) {
            if (noPerson(p) || out(what, 0, 4)) {
                return BAD;
            }
            int known = 0, understood = 0;
            for (int s = 0; s < speeches.size(); s++) {
                known += now.known[s][p] ? 1 << s : 0;
                understood += understands(now, s, p) ? 1 << s : 0;
            }
            return new int[] {now.purse[p], people.get(p), now.banked[p], known, understood}[what];
        }

        int stand(int what) {
            if (now == null) {
                return STATE;
            }
            return out(what, 0, 4) ? BAD : new int[] {now.left, now.hill, now.price, ration, bits(now.said)}[what];
        }

        // ---- foretold

        Now ahead(int n) {
            Now then = now.twin();
            for (int w = 0; w < n; w++) {
                week(then);
            }
            return then;
        }

        int purse(int p, int n) {
            return noPerson(p) || out(n, 0, 60) ? BAD : ahead(n).purse[p];
        }

        int hill(int n) {
            return now == null ? STATE : out(n, 0, 60) ? BAD : ahead(n).hill;
        }

        int known(int s, int n) {
            return noSpeech(s) || out(n, 0, 60) ? BAD : bits(ahead(n).known[s]);
        }

        int allKnow(int s) {
            if (noSpeech(s)) {
                return BAD;
            }
            for (int n = 0; n <= 60; n++) {
                if (Integer.bitCount(known(s, n)) == people.size()) {
                    return n;
                }
            }
            return NONE;
        }

        int when(int s) {
            if (noSpeech(s)) {
                return BAD;
            }
            if (now.said[s]) {
                return STATE;
            }
            for (int n = 0; n <= 60; n++) {
                if (can(ahead(n), s)) {
                    return n;
                }
            }
            return NONE;
        }

        int most(int what) {
            if (now == null) {
                return STATE;
            }
            if (out(what, 0, 2)) {
                return BAD;
            }
            int[] best = null;
            for (int set = (1 << speeches.size()) - 1; set >= 0; set--) {
                int[] one = saidAll(set);
                if (one != null && (best == null || Integer.bitCount(set) > Integer.bitCount(best[0])
                        || Integer.bitCount(set) == Integer.bitCount(best[0]) && one[1] <= best[1])) {
                    best = one;
                }
            }
            return best[what];
        }

        int[] saidAll(int set) {
            Now n = now.twin();
            int w = 0;
            for (int s = 0; s < speeches.size(); s++) {
                if ((set >> s & 1) == 1) {
                    if (!can(n, s)) {
                        return null;
                    }
                    w += speak(n, s);
                }
            }
            int wise = 0;
            for (int p = 0; p < people.size(); p++) {
                boolean all = true;
                for (int s = 0; s < speeches.size(); s++) {
                    all &= (set >> s & 1) == 0 || understands(n, s, p);
                }
                wise += all ? 1 : 0;
            }
            return new int[] {set, w, wise};
        }

        List<Integer> bestOrder;
        int bestWeeks;

        int order(int k) {
            if (now == null) {
                return STATE;
            }
            if (k < -1) {
                return BAD;
            }
            bestOrder = null;
            permute(new ArrayList<>());
            if (bestOrder == null) {
                return NONE;
            }
            return k == -1 ? bestWeeks : k < bestOrder.size() ? bestOrder.get(k) : NONE;
        }

        void permute(List<Integer> order) {
            boolean whole = true;
            for (int s = 0; s < speeches.size(); s++) {
                if (!now.said[s] && !order.contains(s)) {
                    whole = false;
                    order.add(s);
                    permute(order);
                    order.remove(order.size() - 1);
                }
            }
            if (whole) {
                int weeks = weeksOf(order);
                if (weeks <= 60 && (bestOrder == null || weeks < bestWeeks)) {
                    bestOrder = new ArrayList<>(order);
                    bestWeeks = weeks;
                }
            }
        }

        int weeksOf(List<Integer> order) {
            Now n = now.twin();
            int weeks = 0;
            for (int s : order) {
                while (!can(n, s)) {
                    week(n);
                    weeks++;
                    if (weeks > 60) {
                        return weeks;
                    }
                }
                speak(n, s);
            }
            return weeks;
        }

        int clear() {
            if (now == null) {
                return STATE;
            }
            int b = 0;
            for (int s = 0; s < speeches.size(); s++) {
                b += Integer.bitCount(understanders(now, s)) == people.size() ? 1 << s : 0;
            }
            return b;
        }

        boolean passedOn(int s, int p, int n, int deafOnes) {
            Told t = speeches.get(s);
            int ears = deafOnes & ~(1 << t.who);
            boolean[] known = now.said[s] ? now.known[s] : firstKnown(t.kind, t.who, ears);
            for (int w = 0; w < n; w++) {
                known = aWeek(t.kind, known, ears);
            }
            return known[p];
        }

        int deaf(int s, int p, int n, int what) {
            if (noSpeech(s) || noPerson(p) || out(n, 0, 30) || out(what, 0, 1)) {
                return BAD;
            }
            for (int size = 0; size < people.size(); size++) {
                for (int set = 0; set < 1 << people.size(); set++) {
                    if (Integer.bitCount(set) == size && (set >> p & 1) == 0 && !passedOn(s, p, n, set)) {
                        return what == 0 ? size : set;
                    }
                }
            }
            return NONE;
        }

        int share(int p, int n) {
            if (noPerson(p) || out(n, 0, 99)) {
                return BAD;
            }
            int all = 0;
            int[] claim = new int[people.size()], got = new int[people.size()];
            for (int q = 0; q < claim.length; q++) {
                for (Told t : speeches) {
                    claim[q] += t.who == q && !now.said[t.number] ? words(t.number) : 0;
                }
                claim[q] = Math.max(0, claim[q] - now.banked[q]);
                all += claim[q];
            }
            if (all == 0) {
                return 0;
            }
            int over = n;
            for (int q = 0; q < claim.length; q++) {
                got[q] = n * claim[q] / all;
                over -= got[q];
            }
            for (int q = 0; q < claim.length && over > 0; q++) {
                if (claim[q] > 0) {
                    got[q]++;
                    over--;
                }
            }
            return got[p];
        }

        int stretch(int r, int i, int n) {
            return rows[r] == null ? 1 : i < 0 || (long) i + n > length(rows[r]) ? 2 : 0;
        }

        boolean outside(int r, int i, int n, int least, int most) {
            for (int k = 0; k < n; k++) {
                if (out(item(rows[r], i + k), least, most)) {
                    return true;
                }
            }
            return false;
        }

        int thrift(int p, int w, int r, int i, int n) {
            if (noPerson(p) || out(w, 0, 60) || out(r, 0, 7) || out(n, 1, 12)) {
                return BAD;
            }
            int f = stretch(r, i, n);
            f = f == 0 && outside(r, i, n, 1, 9) ? 3 : f;
            if (f != 0) {
                return found(f);
            }
            boolean[][] can = new boolean[61][100];
            can[0][now.purse[p]] = true;
            for (int k = 0; k < n; k++) {
                boolean[][] next = new boolean[61][100];
                int each = item(rows[r], i + k);
                for (int had = 0; had <= 60; had++) {
                    for (int purse = 0; purse < 100; purse++) {
                        for (int b = 0; can[had][purse] && b <= ration && b * each <= purse && had + b <= 60; b++) {
                            next[had + b][Math.min(99, purse - b * each + people.get(p))] = true;
                        }
                    }
                }
                can = next;
            }
            for (int purse = 99; purse >= 0; purse--) {
                if (can[w][purse]) {
                    return fine(purse);
                }
            }
            return fine(NONE);
        }

        int who(int s, int which, int r, int i, int n) {
            if (noSpeech(s) || out(which, 0, 1) || out(r, 0, 7) || out(n, 1, 12)) {
                return BAD;
            }
            int f = stretch(r, i, n);
            if (f != 0) {
                return found(f);
            }
            int b = 0;
            for (int kind = 1; kind <= 5; kind++) {
                for (int p = 0; p < people.size(); p++) {
                    boolean[] known = firstKnown(kind, p, 0);
                    boolean fits = true;
                    for (int k = 0; k < n; k++) {
                        known = aWeek(kind, known, 0);
                        fits &= Integer.bitCount(bits(known)) == item(rows[r], i + k);
                    }
                    b |= fits ? which == 0 ? 1 << kind : 1 << p : 0;
                }
            }
            return fine(b);
        }

        int priced(int r, int i, int o, int j, int n) {
            if (out(r, 0, 7) || out(o, 0, 7) || out(n, 1, 12)) {
                return BAD;
            }
            int f = stretch(r, i, n);
            f = f == 0 ? stretch(o, j, n) : f;
            f = f == 0 && (outside(r, i, n, 0, 999) || outside(o, j, n, 1, 9)) ? 3 : f;
            if (f != 0) {
                return found(f);
            }
            int sum = 0;
            for (int k = 0; k < n; k++) {
                sum += item(rows[r], i + k) * item(rows[o], j + k);
            }
            return fine(sum);
        }

        long heard(int s, int person, int n, int p, int what) {
            if (noSpeech(s) || noPerson(person) || out(n, 0, 30) || out(p, 0, 10) || out(what, 0, 1)) {
                return BAD;
            }
            BigInteger sum = BigInteger.ZERO, cases = BigInteger.TEN.pow(people.size());
            // WHO is drawn too: that changes no likelihood, as WHO is never deaf.
            for (int set = 0; set < 1 << people.size(); set++) {
                if (passedOn(s, person, n, set)) {
                    int deafOnes = Integer.bitCount(set);
                    sum = sum.add(BigInteger.valueOf(p).pow(deafOnes).multiply(BigInteger.valueOf(10 - p).pow(people.size() - deafOnes)));
                }
            }
            BigInteger by = sum.gcd(cases);
            return (what == 0 ? sum : cases).divide(by).longValueExact();
        }

        int drawn(int n, int seed, int what) {
            if (now == null) {
                return STATE;
            }
            if (out(n, 0, 60) || out(seed, 1, 999999) || out(what, 0, 1)) {
                return BAD;
            }
            Now then = now.twin();
            BigInteger x = BigInteger.valueOf(seed);
            for (int w = 0; w < n; w++) {
                x = x.multiply(BigInteger.valueOf(16807)).mod(BigInteger.valueOf(2147483647));
                int s = x.mod(BigInteger.valueOf(speeches.size())).intValue();
                if (can(then, s)) {
                    speak(then, s);
                }
                week(then);
            }
            return what == 0 ? bits(then.said) : then.hill;
        }

        int image(int k) {
            if (out(k, 0, 1)) {
                return BAD;
            }
            if (now == null) {
                return STATE;
            }
            Kept kept = new Kept();
            kept.ration = ration;
            kept.people = people;
            kept.speeches = speeches;
            kept.now = now.twin();
            images[k] = kept;
            return 1;
        }

        int restore(int k) {
            if (out(k, 0, 1)) {
                return BAD;
            }
            if (images[k] == null) {
                return STATE;
            }
            ration = images[k].ration;
            people = images[k].people;
            speeches = images[k].speeches;
            now = images[k].now.twin();
            past.clear();
            return 1;
        }

        // ---- asked

        Speech one(int s) {
            Told t = speeches.get(s);
            return switch (t.kind) {
                case 1 -> new Notice(t);
                case 2 -> new Birth(t);
                case 3 -> new Stammer(t);
                case 4 -> new Whisper(t);
                default -> new Echo(t);
            };
        }

        int kind(int s) {
            return noSpeech(s) ? BAD : speeches.get(s).kind;
        }

        int as(int s, int kind) {
            if (noSpeech(s) || out(kind, 0, 5)) {
                return BAD;
            }
            Class<?>[] kinds = {Speech.class, Notice.class, Birth.class, Stammer.class, Whisper.class, Echo.class};
            return kinds[kind].isInstance(one(s)) ? fine(s) : found(3);
        }

        int ask(int s, int what) {
            if (noSpeech(s) || out(what, 0, 1)) {
                return BAD;
            }
            trace.clear();
            return what == 0 ? one(s).size() : one(s).mark();
        }

        int trace(int i) {
            return i < 0 || i >= Math.min(16, trace.size()) ? NONE : trace.get(i);
        }

        int count(int what) {
            int there = 0;
            for (Object r : rows) {
                there += r == null ? 0 : 1;
            }
            int[] all = {there, people.size(), speeches.size(), now == null ? 0 : now.week, now == null ? 0 : now.left,
                now == null ? 0 : now.hill, past.size(), tape.length()};
            return out(what, 0, 7) ? BAD : all[what];
        }
    }
}
