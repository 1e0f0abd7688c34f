/** What the tests share: it counts wrong answers and prints each of them. */
final class Bench {
    static final int INDEX_OUT = -100;
    static final int ILLEGAL_STATE = -200;
    static final int ILLEGAL_ARGUMENT = -300;

    private String part = "";
    private int asked;
    private int wrong;

    void part(String name) {
        part = name;
    }

    void due(String call, long got, long want) {
        asked++;
        if (got != want) {
            wrong++;
            System.out.println(part + ": " + call + " answered " + got + ", due is " + want);
        }
    }

    void due(String call, boolean got, boolean want) {
        due(call, got ? 1 : 0, want ? 1 : 0);
    }

    int asked() {
        return asked;
    }

    /** Types a text in pieces of at most 8 characters; false as soon as a piece is refused. */
    static boolean type(ChipMap x, String text) {
        for (int from = 0; from < text.length(); from += 8) {
            String piece = text.substring(from, Math.min(text.length(), from + 8));
            if (!x.type(word(piece), piece.length())) {
                return false;
            }
        }
        return true;
    }

    static long word(String piece) {
        long word = 0;
        for (int i = 0; i < piece.length(); i++) {
            word = word << 8 | piece.charAt(i);
        }
        return word;
    }

    static int compile(ChipMap x) {
        try {
            return x.compile();
        } catch (IllegalArgumentException e) {
            return ILLEGAL_ARGUMENT;
        }
    }

    static int compile(ChipMap x, String tape) {
        type(x, tape);
        return compile(x);
    }

    static int fetch(ChipMap x, int f) {
        try {
            return x.fetch(f);
        } catch (IndexOutOfBoundsException e) {
            return INDEX_OUT;
        } catch (IllegalStateException e) {
            return ILLEGAL_STATE;
        }
    }

    /** A new object with this map, which must have no fault. */
    ChipMap chip(String tape) {
        ChipMap x = new ChipMap();
        due("typing " + tape, type(x, tape), true);
        compile(x);
        due("fault(0) of " + tape, x.fault(0), 0);
        return x;
    }

    /** A tape without a fault: how many registers it has. */
    ChipMap goodDue(String tape, int registers) {
        ChipMap x = new ChipMap();
        due("typing " + tape, type(x, tape), true);
        due("compile of " + tape, compile(x), registers);
        due("fault(0) of " + tape, x.fault(0), 0);
        due("fault(1) of " + tape, x.fault(1), 0);
        return x;
    }

    void faultDue(String tape, int kind, int place) {
        ChipMap x = new ChipMap();
        due("typing " + tape, type(x, tape), true);
        due("compile of " + tape, compile(x), ILLEGAL_ARGUMENT);
        due("fault(0) of " + tape, x.fault(0), kind);
        due("fault(1) of " + tape, x.fault(1), place);
    }

    void traceDue(ChipMap x, int k, int isWrite, int offset, int word) {
        due("trace(" + k + ", 0)", x.trace(k, 0), isWrite);
        due("trace(" + k + ", 1)", x.trace(k, 1), offset);
        due("trace(" + k + ", 2)", x.trace(k, 2), word);
    }

    void end() {
        System.out.println(asked + " answers, " + wrong + " of them not as due");
        if (wrong != 0) {
            System.exit(1);
        }
    }
}
