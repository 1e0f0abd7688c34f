/** Promises 10 to 15: the driver and its trace. */
public final class DriverTests {
    private static final Bench BENCH = new Bench();
    private static final String ALL = "@01{Aw1:0=1;Br3:2;Co5:4=3;Dc7:6;Et9:8=3;Fs11:10;Gp13:12;}";
    private static final String BANKED =
        "@01{Aw1:0;Bo3:2=1;Ct5:4;}@02?A=1{Dw3:0;Es7:4;Fc11:8;}@02?A=2{Gr3:0=7;Hp7:4;Ic9:8;Jc11:10;}";

    public static void main(String[] args) {
        putting();
        puttingInABank();
        puttingRefused();
        fetching();
        fetchingKept();
        fetchingRefused();
        joining();
        flushing();
        flushingOnlyWhatIsNeeded();
        flushingRefused();
        dropping();
        tracing();
        BENCH.end();
    }

    private static void putting() {
        BENCH.part("promise 10");
        ChipMap x = BENCH.chip(ALL);
        BENCH.due("w that has it", x.put(0, 1), 0);
        BENCH.due("o that has it", x.put(2, 3), 0);
        BENCH.due("state(0)", x.state(0), 0);
        BENCH.due("w", x.put(0, 2), 1);
        BENCH.traceDue(x, 0, 1, 1, 0x32);
        BENCH.due("o", x.put(2, 1), 1);
        BENCH.traceDue(x, 0, 1, 1, 0x12);
        BENCH.due("t", x.put(4, 1), 1);
        BENCH.traceDue(x, 0, 1, 1, 0x112);
        BENCH.due("what is left of it", x.field(4, 3), 2);
        BENCH.due("s", x.put(5, 2), 1);
        BENCH.traceDue(x, 0, 1, 1, 0x812);
        BENCH.due("s again", x.put(5, 2), 1);
        BENCH.due("p", x.put(6, 3), 1);
        BENCH.traceDue(x, 0, 1, 1, 0x3012);
        BENCH.due("0 to a t is a WRITE too", x.put(4, 0), 1);
        BENCH.traceDue(x, 0, 1, 1, 0x12);
        BENCH.due("r", x.put(1, 0), -1);
        BENCH.due("c", x.put(3, 0), -1);
        BENCH.due("4 does not fit", x.put(0, 4), -1);
        BENCH.due("-1 does not fit", x.put(0, -1), -1);
        BENCH.due("no such field", x.put(7, 0), -1);
        BENCH.due("field -1", x.put(-1, 0), -1);
        BENCH.due("field 26", x.put(26, 0), -1);
        BENCH.due("state(0)", x.state(0), 7);
        x.join(0, 0);
        BENCH.due("PUTS are JOINED", x.put(0, 0), -1);
    }

    private static void puttingInABank() {
        ChipMap x = BENCH.chip(BANKED);
        BENCH.due("has it, and need not be reached", x.put(3, 0), 0);
        BENCH.due("reached and written", x.put(3, 9), 2);
        BENCH.traceDue(x, 1, 1, 1, 5);
        BENCH.traceDue(x, 0, 1, 2, 9);
        BENCH.due("reached already", x.put(4, 3), 1);
        BENCH.traceDue(x, 0, 1, 2, 0x39);
        BENCH.due("the other bank", x.put(7, 15), 2);
        BENCH.traceDue(x, 1, 1, 1, 6);
        BENCH.traceDue(x, 0, 1, 2, 0xF0);
        x.busWrite(1, 0);
        BENCH.due("by hand away from it", x.put(7, 1), 2);
        BENCH.traceDue(x, 1, 1, 1, 2);
    }

    private static void puttingRefused() {
        ChipMap x = BENCH.chip("@01{Aw1:0;Bw3:2;}@02?A=1{Cw3:0;Dt7:4;}B<C;B<A;D!C;");
        BENCH.due("both OPERATIONS would break one", x.put(2, 1), -2);
        BENCH.due("the bank alone", x.put(0, 1), -2);
        BENCH.due("nothing done", x.state(0), 0);
        BENCH.due("nothing broken", x.state(1), 0);
        BENCH.due("no need of an OPERATION", x.put(2, 0), 0);
        BENCH.due("B", x.put(1, 1), 1);
        BENCH.due("C", x.put(2, 1), 2);
        BENCH.due("D", x.put(3, 1), 1);
        BENCH.due("back", x.put(0, 0), 1);
        BENCH.due("D again, seen ahead of the bank's WRITE", x.put(3, 1), -2);
        BENCH.due("the bank stays", x.field(0, 3), 0);
        BENCH.due("0 to D is no breach", x.put(3, 0), 2);
        ChipMap y = BENCH.chip("@01{Aw1:0;}@02?A=1{Cw3:0;}A<C;");
        BENCH.due("the bank's own WRITE is an earlier one", y.put(2, 1), 2);
    }

    private static void fetching() {
        BENCH.part("promise 11");
        ChipMap x = BENCH.chip(ALL);
        BENCH.due("w is known", Bench.fetch(x, 0), 1);
        BENCH.due("state(0)", x.state(0), 0);
        x.poke(1, 2);
        BENCH.due("r", Bench.fetch(x, 1), 2);
        BENCH.traceDue(x, 0, 0, 1, 1 | 2 << 2 | 3 << 8);
        BENCH.due("t", Bench.fetch(x, 4), 3);
        x.put(5, 1);
        BENCH.due("s", Bench.fetch(x, 5), 1);
        x.put(6, 2);
        BENCH.due("p", Bench.fetch(x, 6), 2);
        BENCH.due("p", Bench.fetch(x, 6), 2);
        BENCH.due("p is over", Bench.fetch(x, 6), 0);
        BENCH.due("o", Bench.fetch(x, 2), Bench.INDEX_OUT);
        BENCH.due("no such field", Bench.fetch(x, 7), Bench.INDEX_OUT);
        BENCH.due("field -1", Bench.fetch(x, -1), Bench.INDEX_OUT);
        BENCH.due("field 26", Bench.fetch(x, 26), Bench.INDEX_OUT);
        BENCH.due("state(0)", x.state(0), 8);
        x.join(0, 1);
        BENCH.due("JOINED", Bench.fetch(x, 1), Bench.ILLEGAL_STATE);
        BENCH.due("JOINED, of a w", Bench.fetch(x, 0), Bench.ILLEGAL_STATE);
        BENCH.due("JOINED, of an o", Bench.fetch(x, 2), Bench.INDEX_OUT);
        BENCH.due("state(0)", x.state(0), 8);
    }

    private static void fetchingKept() {
        ChipMap x = BENCH.chip(BANKED);
        x.poke(8, 1);
        x.poke(9, 2);
        BENCH.due("an r of a bank", Bench.fetch(x, 6), 7);
        BENCH.traceDue(x, 1, 1, 1, 6);
        BENCH.traceDue(x, 0, 0, 2, 7 | 1 << 8 | 2 << 10);
        BENCH.due("KEPT of I", x.field(8, 4), 1);
        BENCH.due("KEPT of J", x.field(9, 4), 2);
        x.poke(8, 2);
        x.poke(9, 1);
        BENCH.due("what is KEPT and what is there", Bench.fetch(x, 8), 3);
        BENCH.due("KEPT of I no more", x.field(8, 4), 0);
        BENCH.due("KEPT of J more", x.field(9, 4), 3);
        BENCH.due("I again", Bench.fetch(x, 8), 0);
        BENCH.due("a w of a bank that is not THERE", Bench.fetch(x, 3), 0);
        BENCH.due("state(0)", x.state(0), 4);
        x.put(0, 0);
        BENCH.due("J is reached though KEPT", Bench.fetch(x, 9), 3);
        BENCH.due("state(0)", x.state(0), 7);
    }

    private static void fetchingRefused() {
        ChipMap x = BENCH.chip("@01{Aw1:0;Bw3:2;}@02?A=1{Cr3:0;Dw7:4;}B<A;");
        BENCH.due("the bank's WRITE would break a rule", Bench.fetch(x, 2), Bench.ILLEGAL_STATE);
        BENCH.due("nothing done", x.state(0), 0);
        BENCH.due("a w is known", Bench.fetch(x, 3), 0);
        x.put(1, 1);
        BENCH.due("reached", Bench.fetch(x, 2), 0);
        BENCH.due("three OPERATIONS", x.state(0), 3);
    }

    private static void joining() {
        BENCH.part("promise 12");
        ChipMap x = BENCH.chip(ALL);
        BENCH.due("w", x.join(0, 1), 1);
        BENCH.due("r", x.join(1, 0), -1);
        BENCH.due("c", x.join(3, 0), -1);
        BENCH.due("4 does not fit", x.join(0, 4), -1);
        BENCH.due("-1 does not fit", x.join(0, -1), -1);
        BENCH.due("no such field", x.join(7, 0), -1);
        BENCH.due("field -1", x.join(-1, 0), -1);
        BENCH.due("field 26", x.join(26, 0), -1);
        for (int i = 2; i <= 8; i++) {
            BENCH.due("t", x.join(4, 1), i);
        }
        BENCH.due("a ninth", x.join(4, 1), -1);
        BENCH.due("state(2)", x.state(2), 8);
        BENCH.due("no OPERATION", x.state(0), 0);
    }

    private static void flushing() {
        BENCH.part("promise 13");
        ChipMap x = BENCH.chip(BANKED);
        BENCH.due("none wait", x.flush(), 0);
        x.join(3, 5);
        x.join(1, 2);
        x.join(4, 1);
        x.join(2, 1);
        x.join(3, 6);
        x.join(4, 4);
        x.join(2, 2);
        BENCH.due("register by register", x.flush(), 3);
        BENCH.traceDue(x, 2, 1, 1, 5);
        BENCH.traceDue(x, 1, 1, 2, 0x56);
        BENCH.traceDue(x, 0, 1, 1, 0x39);
        BENCH.due("none wait", x.state(2), 0);
        x.join(3, 1);
        x.join(7, 1);
        x.join(0, 0);
        BENCH.due("from bank to bank", x.flush(), 4);
        BENCH.traceDue(x, 3, 1, 2, 1);
        BENCH.traceDue(x, 2, 1, 1, 0xA);
        BENCH.traceDue(x, 1, 1, 2, 0x10);
        BENCH.traceDue(x, 0, 1, 1, 8);
        for (int i = 0; i < 4; i++) {
            x.join(3 + 4 * (i & 1), 2 + i);
            x.join(4, 0);
        }
        BENCH.due("eight, two registers", x.flush(), 4);
    }

    private static void flushingOnlyWhatIsNeeded() {
        ChipMap x = BENCH.chip(BANKED);
        x.join(3, 7);
        x.join(3, 0);
        BENCH.due("the last one counts, and is there", x.flush(), 0);
        x.join(1, 1);
        x.join(0, 0);
        BENCH.due("all have their values", x.flush(), 0);
        x.join(1, 1);
        x.join(2, 0);
        BENCH.due("0 to a t is a WRITE", x.flush(), 1);
        BENCH.traceDue(x, 0, 1, 1, 4);
        x.join(3, 0);
        x.join(4, 0);
        BENCH.due("0 to an s is a WRITE", x.flush(), 2);
        x.join(3, 1);
        x.join(0, 1);
        BENCH.due("the bank has its value then", x.flush(), 1);
        x.put(0, 0);
        x.join(3, 2);
        x.join(0, 1);
        BENCH.due("the way there gave it its value", x.flush(), 2);
    }

    private static void flushingRefused() {
        ChipMap x = BENCH.chip("@01{Aw1:0;Bw3:2;}@02{Cw3:0;}@03{Dw0:0;}A<B;D<C;C!A;");
        x.join(0, 1);
        x.join(1, 1);
        BENCH.due("A is not by an earlier WRITE", x.flush(), -2);
        BENCH.due("they wait", x.state(2), 2);
        x.drop();
        x.join(3, 1);
        x.join(2, 1);
        BENCH.due("D is by an earlier one", x.flush(), 2);
        x.join(0, 1);
        x.join(2, 2);
        BENCH.due("A is between", x.flush(), 2);
        x.join(0, 2);
        x.join(1, 1);
        x.join(2, 3);
        BENCH.due("all is well", x.flush(), 2);
        x.join(1, 0);
        x.join(2, 4);
        BENCH.due("no A between", x.flush(), -2);
        BENCH.due("the first was not done", x.field(1, 3), 1);
        BENCH.due("no rule broken", x.state(1), 0);
        BENCH.due("they wait", x.state(2), 2);
        x.busWrite(1, 5);
        BENCH.due("later they can be done", x.flush(), 2);
    }

    private static void dropping() {
        BENCH.part("promise 14");
        ChipMap x = BENCH.chip(ALL);
        BENCH.due("none", x.drop(), 0);
        x.join(0, 2);
        x.join(0, 3);
        BENCH.due("two", x.drop(), 2);
        BENCH.due("none any more", x.drop(), 0);
        BENCH.due("flush", x.flush(), 0);
        BENCH.due("field(0, 3)", x.field(0, 3), 1);
        BENCH.due("put", x.put(0, 2), 1);
    }

    private static void tracing() {
        BENCH.part("promise 15");
        ChipMap x = BENCH.chip("@fe{Aw15:0;}");
        BENCH.due("none yet", x.trace(0, 0), -1);
        for (int i = 1; i <= 70; i++) {
            if (i % 2 == 0) {
                x.busWrite(254, i);
            } else {
                x.put(0, 1000 + i);
            }
        }
        for (int k = 0; k < 64; k++) {
            int i = 70 - k;
            BENCH.traceDue(x, k, 1, 254, i % 2 == 0 ? i : 1000 + i);
        }
        BENCH.due("trace(64, 0)", x.trace(64, 0), -1);
        BENCH.due("trace(-1, 0)", x.trace(-1, 0), -1);
        BENCH.due("trace(most negative)", x.trace(Integer.MIN_VALUE, 0), -1);
        BENCH.due("trace(most positive)", x.trace(Integer.MAX_VALUE, 0), -1);
        BENCH.due("trace(0, 3)", x.trace(0, 3), -1);
        BENCH.due("trace(0, -1)", x.trace(0, -1), -1);
        x.busRead(254);
        BENCH.traceDue(x, 0, 0, 254, 70);
        x.reset();
        x.busRead(254);
        BENCH.traceDue(x, 0, 0, 254, 0);
        BENCH.due("trace(1, 0)", x.trace(1, 0), -1);
    }
}
