import java.util.function.IntFunction;

/** What the tests of the edges share: answers compared under the document's sentence, texts told, rows filled. */
final class Check {
    static final int NONE = -1000000, BAD = -1000001, STATE = -1000002, FULL = -1000003;
    static final int NULL = -1000011, PLACE = -1000012, KIND = -1000013, SIZE = -1000014, STORE = -1000015;
    static final int FAULT = -1000100;
    static final int LEAST = Integer.MIN_VALUE, MOST = Integer.MAX_VALUE;

    private final String name;
    private String sentence = "";
    private int wrong;

    Check(String itsName) {
        name = itsName;
    }

    /** The document's sentence that the next answers are due by. */
    void of(String itsSentence) {
        sentence = itsSentence;
    }

    void due(String call, long got, long want) {
        if (got != want) {
            wrong++;
            System.out.println(name + ", \"" + sentence + "\": " + call + " answered " + got + ", due is " + want);
        }
    }

    void end() {
        System.out.println(name + (wrong == 0 ? ": all answers are as due" : ": " + wrong + " wrong"));
        if (wrong != 0) {
            System.exit(1);
        }
    }

    static void feed(CrierWeeks x, String text) {
        for (int i = 0; i < text.length(); i++) {
            x.feed(text.charAt(i));
        }
    }

    static int read(CrierWeeks x, String text) {
        feed(x, text);
        return x.duchy();
    }

    CrierWeeks told(String text) {
        CrierWeeks x = new CrierWeeks();
        if (read(x, text) <= 0) {
            wrong++;
            System.out.println(name + ", \"" + sentence + "\": not read: " + text);
        }
        return x;
    }

    /** A text that is read, or has no FAULT at least: how many SPEECHES it tells. */
    void reads(String text, int speeches) {
        CrierWeeks x = new CrierWeeks();
        due("duchy of " + text, read(x, text), speeches);
        due("fault of " + text, x.fault(), 0);
    }

    void faulty(String text, int fault, int place) {
        CrierWeeks x = new CrierWeeks();
        due("duchy of " + text, read(x, text), FAULT - place);
        due("fault of " + text, x.fault(), fault);
    }

    void row(CrierWeeks x, int row, int lane, int... items) {
        due("row", x.row(row, lane, items.length), items.length);
        for (int i = 0; i < items.length; i++) {
            due("set " + i, x.set(row, i, items[i]), items[i]);
        }
    }

    /** A number is taken from least to most, and BAD just beyond and far beyond. */
    void bounds(String call, int least, int most, IntFunction<Number> answer) {
        for (int v : new int[] {least - 1, most + 1, LEAST, MOST}) {
            due(call + ", " + v, answer.apply(v).longValue(), BAD);
        }
        for (int v = least; v <= most; v = v < least + 40 ? v + 1 : Math.max(v + 1, most)) {
            due(call + ", is " + v + " BAD", answer.apply(v).longValue() == BAD ? 1 : 0, 0);
        }
    }
}
