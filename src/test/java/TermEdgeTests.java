/** The boundary cases of Terms that the device, the driver and the check have, as they stand there. */
public final class TermEdgeTests {
    private static final Bench BENCH = new Bench();
    private static final int PUT = 0;
    private static final int FETCH = 1;
    private static final int GO = 2;
    private static final int END = 3;

    public static void main(String[] args) {
        thereOrNot();
        whatAWriteDoes();
        whatIsWritten();
        whatAReadGives();
        pulseOfTwoReads();
        before();
        onlyAt();
        between();
        aloneInOneWrite();
        toReach();
        wordsOfTheDriver();
        whatIsKept();
        whatIsNoPut();
        whatIsNoFetch();
        joinedByRegister();
        refusedAsAWhole();
        stepsOfTheScript();
        waysOfTheCheck();
        whatSituationsDifferIn();
        BENCH.end();
    }

    private static void valuesDue(ChipMap x, int... values) {
        for (int f = 0; f < values.length; f++) {
            BENCH.due("field(" + f + ", 3)", x.field(f, 3), values[f]);
        }
    }

    private static void thereOrNot() {
        BENCH.part("a REGISTER is THERE");
        ChipMap x = BENCH.chip("@00{Aw3:0=7;}@ff?A=8{Bw3:0=1;}@ff?A=0{Cw3:0=2;}@ff?A=f{Dw3:0=3;}");
        BENCH.due("no BANK", x.busRead(0), 7);
        BENCH.due("7 is none of the digits", x.busRead(255), -1);
        int[][] due = {{8, 1}, {9, -1}, {0, 2}, {1, -1}, {15, 3}, {14, -1}};
        for (int[] row : due) {
            x.busWrite(0, row[0]);
            BENCH.due("a READ while A is " + row[0], x.busRead(255), row[1]);
            BENCH.due("a WRITE while A is " + row[0], x.busWrite(255, Math.max(0, row[1])), row[1] < 0 ? -1 : 0);
        }
        x = BENCH.chip("@00{Aw15:0=f;}@01?A=f{Bw0:0=1;}");
        BENCH.due("the value is the digit", x.busRead(1), 1);
        x.busWrite(0, 0x1F);
        BENCH.due("the digit is not the value's last one", x.busRead(1), -1);
    }

    private static void whatAWriteDoes() {
        BENCH.part("a WRITE, by ACCESS");
        String tape = "@01{Aw1:0=1;Br3:2=1;Co5:4=1;Dc7:6=1;Et9:8=3;Fs11:10=1;Gp13:12=1;}@02{Hw15:0=1234;}";
        ChipMap x = BENCH.chip(tape);
        x.busWrite(1, 0);
        valuesDue(x, 0, 1, 0, 1, 3, 1, 1, 0x1234);
        x = BENCH.chip(tape);
        x.busWrite(1, 0xFFFF);
        valuesDue(x, 3, 1, 3, 1, 0, 3, 3, 0x1234);
        x = BENCH.chip(tape);
        x.busWrite(1, 0xEAAA);
        valuesDue(x, 2, 1, 2, 1, 1, 3, 2, 0x1234);
        x = BENCH.chip(tape);
        x.busWrite(1, 0xC000);
        valuesDue(x, 0, 1, 0, 1, 3, 1, 1, 0x1234);
        BENCH.due("bits where there is no field", x.busRead(1), 0x1744);
    }

    /** A<A is broken by the first WRITE by which A is WRITTEN. */
    private static void whatIsWritten() {
        BENCH.part("a field is WRITTEN");
        for (char access : "wo".toCharArray()) {
            for (int x = 0; x < 4; x++) {
                ChipMap chip = BENCH.chip("@01{A" + access + "8:7=2;Bw0:0;}A<A;");
                BENCH.due(access + " has 2, x is " + x, chip.busWrite(1, x << 7), x == 2 ? 0 : 1);
                BENCH.due("again", chip.busWrite(1, x << 7), 0);
            }
        }
        for (char access : "tsp".toCharArray()) {
            for (int value = 0; value < 4; value++) {
                for (int x = 0; x < 4; x++) {
                    ChipMap chip = BENCH.chip("@01{A" + access + "8:7=" + value + ";Bw0:0;}A<A;");
                    BENCH.due(access + " has " + value + ", x is " + x, chip.busWrite(1, x << 7), x == 0 ? 0 : 1);
                }
            }
        }
        ChipMap chip = BENCH.chip("@01{Aw1:0=1;}@02{Bw1:0;}A<A;");
        BENCH.due("a WRITE elsewhere", chip.busWrite(2, 3), 0);
        BENCH.due("only 16 bits count", chip.busWrite(1, 0x10001), 0);
        BENCH.due("another value", chip.busWrite(1, 0), 1);
    }

    private static void whatAReadGives() {
        BENCH.part("a READ, by ACCESS");
        for (char access : "wroctsp".toCharArray()) {
            ChipMap x = BENCH.chip("@01{A" + access + "9:6=f;}");
            BENCH.due(access + " is read", x.busRead(1), access == 'o' ? 0 : 0x3C0);
            BENCH.due(access + " behind it", x.field(0, 3), access == 'c' ? 0 : 15);
            BENCH.due(access + " is KEPT", x.field(0, 4), access == 'c' ? 15 : 0);
            BENCH.due(access + " is read again", x.busRead(1), access == 'o' || access == 'c' ? 0 : 0x3C0);
        }
        ChipMap x = BENCH.chip("@01{Ac0:0=1;}@02{Bc0:0=1;}");
        x.busRead(1);
        valuesDue(x, 0, 1);
        BENCH.due("KEPT of B", x.field(1, 4), 0);
    }

    private static void pulseOfTwoReads() {
        BENCH.part("a p, for two READS");
        ChipMap x = BENCH.chip("@01{Ap1:0;Bw3:2;}@02{Cp0:0;}");
        x.busWrite(1, 3);
        BENCH.due("ahead of READS", x.field(0, 3), 3);
        BENCH.due("the first", x.busRead(1), 3);
        BENCH.due("behind the first", x.field(0, 3), 3);
        BENCH.due("the second", x.busRead(1), 3);
        BENCH.due("behind the second", x.field(0, 3), 0);
        BENCH.due("the third", x.busRead(1), 0);
        x.busWrite(1, 1);
        x.busRead(1);
        x.busWrite(1, 0);
        BENCH.due("an x of 0 neither ends it nor makes it longer", x.busRead(1), 1);
        BENCH.due("over", x.busRead(1), 0);
        x.busWrite(1, 1);
        x.busRead(1);
        x.busWrite(1, 1);
        BENCH.due("the same x came again", x.busRead(1), 1);
        BENCH.due("its second READ", x.busRead(1), 1);
        BENCH.due("over", x.busRead(1), 0);
        x.busWrite(2, 1);
        x.busRead(1);
        x.busRead(1);
        BENCH.due("READS of another REGISTER", x.busRead(2), 1);
        BENCH.due("its second", x.busRead(2), 1);
        BENCH.due("over", x.busRead(2), 0);
        x.put(0, 2);
        BENCH.due("READS of a FETCH count", Bench.fetch(x, 0), 2);
        BENCH.due("one by hand", x.busRead(1), 2);
        BENCH.due("over", Bench.fetch(x, 0), 0);
        x.busWrite(1, 4 | 2);
        Bench.fetch(x, 1);
        Bench.fetch(x, 1);
        Bench.fetch(x, 1);
        BENCH.due("a FETCH of a w is no READ", x.field(0, 3), 2);
    }

    private static void before() {
        BENCH.part("A<B");
        ChipMap x = BENCH.chip("@01{Aw1:0;Bw3:2;}@02{Ct0:0;}A<B;");
        BENCH.due("neither", x.busWrite(2, 1), 0);
        BENCH.due("B alone", x.busWrite(1, 4), 1);
        BENCH.due("the device goes on", x.field(1, 3), 1);
        BENCH.due("B again, A never", x.busWrite(1, 8), 1);
        BENCH.due("both in one WRITE", x.busWrite(1, 5), 1);
        BENCH.due("A was by that one", x.busWrite(1, 9), 0);
        BENCH.due("and is for ever", x.busWrite(1, 4), 0);
        BENCH.due("both, A was", x.busWrite(1, 9), 0);
        x.reset();
        BENCH.due("A was ahead of the RESET only", x.busWrite(1, 4), 1);
        x.reset();
        BENCH.due("A alone", x.busWrite(1, 1), 0);
        BENCH.due("B behind it", x.busWrite(1, 5), 0);
        x.reset();
        x.busWrite(1, 0);
        BENCH.due("a WRITE by which A was not WRITTEN", x.busWrite(1, 4), 1);
    }

    private static void onlyAt() {
        BENCH.part("A&B=v");
        ChipMap x = BENCH.chip("@01{At1:0;Bo5:2=8;}@02{Cw3:0;}A&B=9;C&C=0;");
        BENCH.due("8 is not 9", x.busWrite(1, 0x21), 1);
        BENCH.due("it was 8 ahead of it", x.busWrite(1, 0x25), 1);
        BENCH.due("9", x.busWrite(1, 0x25), 0);
        BENCH.due("9 ahead of it, 10 behind it", x.busWrite(1, 0x29), 0);
        BENCH.due("10 is not 9", x.busWrite(1, 0x29), 1);
        BENCH.due("A is not WRITTEN", x.busWrite(1, 0x28), 0);
        BENCH.due("C from 0", x.busWrite(2, 1), 0);
        BENCH.due("C from 1 to 0", x.busWrite(2, 0), 2);
        BENCH.due("C from 0 again", x.busWrite(2, 15), 0);
        BENCH.due("C stays", x.busWrite(2, 15), 0);
        BENCH.due("state(1)", x.state(1), 4);
    }

    private static void between() {
        BENCH.part("A!B");
        String tape = "@01{At0:0;Bt1:1;}A!B;";
        // Words of one run on a new device: 1 is A, 2 is B, 3 both; behind the last one what is due.
        int[][] runs = {{1, 0}, {2, 0}, {3, 0}, {1, 1, 1}, {1, 2, 0}, {2, 1, 0}, {1, 2, 1, 0}, {1, 2, 1, 1, 1},
            {2, 1, 1, 1}, {3, 1, 0}, {3, 1, 1, 1}, {1, 1, 1, 1}, {1, 0, 1, 1}, {1, 1, 2, 1, 0}, {2, 2, 1, 2, 2, 1, 0},
            {3, 2, 1, 0}, {1, 2, 3, 0}, {1, 2, 3, 1, 0}, {3, 3, 0}, {3, 3, 3, 0}};
        for (int[] run : runs) {
            ChipMap x = BENCH.chip(tape);
            StringBuilder told = new StringBuilder("the last of");
            int last = 0;
            for (int i = 0; i < run.length - 1; i++) {
                told.append(' ').append(run[i]);
                last = x.busWrite(1, run[i]);
            }
            BENCH.due(told.toString(), last, run[run.length - 1]);
        }
        ChipMap x = BENCH.chip(tape);
        x.busWrite(1, 1);
        x.reset();
        BENCH.due("A was ahead of the RESET only", x.busWrite(1, 1), 0);
        x = BENCH.chip("@01{At0:0;}A!A;");
        x.busWrite(1, 1);
        BENCH.due("A is its own B, by that itself", x.busWrite(1, 1), 0);
    }

    private static void aloneInOneWrite() {
        BENCH.part("several RULES of one WRITE");
        ChipMap x = BENCH.chip("@01{Aw0:0;Bw1:1;Ct2:2;}C<A;A&B=1;A<C;C!B;");
        BENCH.due("rules 0, 1 and 2", x.busWrite(1, 5), 1);
        BENCH.due("each counts once", x.state(1), 3);
        BENCH.due("rules 1 and 3", x.busWrite(1, 4), 2);
        BENCH.due("state(1)", x.state(1), 5);
        BENCH.due("rule 3 alone", x.busWrite(1, 4), 4);
        BENCH.due("none", x.busWrite(1, 2), 0);
        BENCH.due("state(1)", x.state(1), 6);
    }

    private static void toReach() {
        BENCH.part("TO REACH a REGISTER with a BANK");
        String tape = "@01{Aw3:0=2;Bw5:4=3;Cs7:6;}@02?A=2{Dw3:0;}@03?A=0{Er3:0=9;}";
        ChipMap x = BENCH.chip(tape);
        BENCH.due("the BANK's field has the value", x.put(3, 1), 1);
        BENCH.traceDue(x, 0, 1, 2, 1);
        BENCH.due("another value", Bench.fetch(x, 4), 9);
        BENCH.due("a WRITE and a READ", x.state(0), 3);
        BENCH.traceDue(x, 1, 1, 1, 0x30);
        BENCH.traceDue(x, 0, 0, 3, 9);
        BENCH.due("the BANK stays", Bench.fetch(x, 4), 9);
        BENCH.due("a READ alone", x.state(0), 4);
        BENCH.due("another value", x.put(3, 2), 2);
        BENCH.traceDue(x, 1, 1, 1, 0x32);
        BENCH.traceDue(x, 0, 1, 2, 2);
        BENCH.due("a REGISTER without a BANK", x.put(1, 0), 1);
        x = BENCH.chip("@01{Bw3:0=5;Aw15:12;}@02?A=f{Cw3:0;}@02?A=0{Dr3:0=6;}@02?A=8{Ew3:0;}");
        BENCH.due("the BANK's field stands high", x.put(2, 3), 2);
        BENCH.traceDue(x, 1, 1, 1, 0xF005);
        BENCH.due("back to 0", Bench.fetch(x, 3), 6);
        BENCH.traceDue(x, 1, 1, 1, 5);
        x.join(4, 1);
        BENCH.due("for JOINED PUTS", x.flush(), 2);
        BENCH.traceDue(x, 1, 1, 1, 0x8005);
        BENCH.due("B stays", x.field(1, 3), 5);
        BENCH.due("A is the digit", x.field(0, 3), 8);
    }

    private static void wordsOfTheDriver() {
        BENCH.part("in a word that it WRITES");
        ChipMap x = BENCH.chip("@01{Aw1:0=1;Bo3:2=2;Ct5:4=3;Ds7:6=3;Ep9:8=3;Fr11:10=3;Gc13:12=3;}");
        int known = 1 | 2 << 2;
        int[] words = {2 | 2 << 2, 1 | 1 << 2, known | 2 << 4, known | 1 << 6, known | 2 << 8};
        int[] values = {2, 1, 2, 1, 2};
        for (int f = 0; f < 5; f++) {
            x.reset();
            BENCH.due("put(" + f + ")", x.put(f, values[f]), 1);
            BENCH.traceDue(x, 0, 1, 1, words[f]);
        }
        x.reset();
        x.busWrite(1, 0xFFFF);
        x.put(2, 1);
        BENCH.traceDue(x, 0, 1, 1, 0xF | 1 << 4);
    }

    private static void whatIsKept() {
        BENCH.part("what a READ clears it KEEPS");
        ChipMap x = BENCH.chip("@01{Ac3:0;Bc7:4;Cr8:8;}");
        x.busRead(1);
        BENCH.due("nothing was set", x.field(0, 4), 0);
        x.poke(0, 5);
        x.poke(1, 8);
        BENCH.due("C is asked for", Bench.fetch(x, 2), 0);
        BENCH.due("KEPT of A", x.field(0, 4), 5);
        BENCH.due("KEPT of B", x.field(1, 4), 8);
        x.poke(0, 4);
        x.poke(1, 1);
        BENCH.due("A is asked for", Bench.fetch(x, 0), 5);
        BENCH.due("KEPT of A", x.field(0, 4), 0);
        BENCH.due("KEPT of B: bits that were set once", x.field(1, 4), 9);
        x.poke(1, 0);
        BENCH.due("a poke leaves it", x.field(1, 4), 9);
        BENCH.due("a READ is done all the same", Bench.fetch(x, 1), 9);
        BENCH.due("state(0)", x.state(0), 4);
        BENCH.due("KEPT no more", Bench.fetch(x, 1), 0);
        x.poke(0, 15);
        BENCH.due("what a READ gives has nothing KEPT", x.busRead(1), 15);
        BENCH.due("by hand too", x.busRead(1), 0);
        BENCH.due("KEPT of A", x.field(0, 4), 15);
    }

    private static void whatIsNoPut() {
        BENCH.part("a PUT is none");
        int[] values = {Integer.MIN_VALUE, -1, 0, 3, 4, 65536, Integer.MAX_VALUE};
        String accesses = "wroctsp";
        for (int i = 0; i < accesses.length(); i++) {
            boolean can = accesses.charAt(i) != 'r' && accesses.charAt(i) != 'c';
            for (int v : values) {
                ChipMap x = BENCH.chip("@01{A" + accesses.charAt(i) + "2:1=1;}");
                boolean good = can && (v == 0 || v == 3);
                String told = accesses.charAt(i) + " of " + v;
                BENCH.due("step, " + told, x.step(PUT, 0, v), good ? 0 : -1);
                BENCH.due("join, " + told, x.join(0, v), good ? 1 : -1);
                BENCH.due("drop", x.drop(), good ? 1 : 0);
                BENCH.due("put, " + told, x.put(0, v), good ? 1 : -1);
            }
        }
        ChipMap x = BENCH.chip("@01{Aw15:0;}");
        BENCH.due("16 bits", x.put(0, 65535), 1);
        BENCH.due("17 bits", x.put(0, 65536), -1);
        x = BENCH.chip("@01{Aw15:15;}");
        BENCH.due("one bit", x.put(0, 1), 1);
        BENCH.due("2 does not fit one", x.put(0, 2), -1);
        for (char access : "wotsp".toCharArray()) {
            x = BENCH.chip("@01{A" + access + "1:0=2;}");
            BENCH.due(access + " has it already", x.put(0, 2), access == 'w' || access == 'o' ? 0 : 1);
        }
    }

    private static void whatIsNoFetch() {
        BENCH.part("a FETCH is none for an o");
        for (char access : "wroctsp".toCharArray()) {
            ChipMap x = BENCH.chip("@01{A" + access + "2:1=2;}");
            BENCH.due("step, " + access, x.step(FETCH, 0, 0), access == 'o' ? -1 : 0);
            BENCH.due("fetch, " + access, Bench.fetch(x, 0), access == 'o' ? Bench.INDEX_OUT : 2);
            BENCH.due("OPERATIONS", x.state(0), access == 'w' || access == 'o' ? 0 : 1);
        }
    }

    private static void joinedByRegister() {
        BENCH.part("JOINED PUTS are DONE");
        ChipMap x = BENCH.chip("@01{Aw1:0;Bo3:2;Ct5:4=3;Ds7:6;Ep9:8;}@02{Fw3:0;}@03?A=1{Gw3:0;}");
        int[][] puts = {{5, 1}, {0, 2}, {5, 2}, {4, 1}, {3, 1}, {3, 2}, {4, 2}, {0, 3}};
        for (int[] put : puts) {
            x.join(put[0], put[1]);
        }
        BENCH.due("two REGISTERS", x.flush(), 2);
        BENCH.traceDue(x, 1, 1, 2, 2);
        BENCH.traceDue(x, 0, 1, 1, 3 | 3 << 6 | 3 << 8);
        x.reset();
        x.join(1, 3);
        x.join(1, 0);
        BENCH.due("the last one is there already", x.flush(), 0);
        x.join(1, 0);
        x.join(1, 3);
        BENCH.due("the last one is not there", x.flush(), 1);
        x.join(2, 1);
        x.join(2, 2);
        BENCH.due("all bits of a t", x.flush(), 1);
        BENCH.traceDue(x, 0, 1, 1, 3 << 2 | 3 << 4);
        for (int f = 2; f < 5; f++) {
            x.join(f, 0);
            BENCH.due("0 to a t, s or p is written", x.flush(), 1);
        }
        x.join(6, 0);
        BENCH.due("G has it already, and A is 0", x.flush(), 0);
        x.join(6, 4);
        BENCH.due("reached and written", x.flush(), 2);
        x.join(6, 4);
        x.join(0, 1);
        x.join(5, 0);
        BENCH.due("none needs one", x.flush(), 0);
        x.join(6, 4);
        x.join(0, 1);
        x.join(5, 1);
        BENCH.due("one of three needs one", x.flush(), 1);
        BENCH.traceDue(x, 0, 1, 2, 1);
    }

    private static void refusedAsAWhole() {
        BENCH.part("REFUSED, as a whole");
        String tape = "@01{Aw1:0;Bw3:2;}@02?A=1{Cw3:0;Dr7:4;}@03{Et0:0;}";
        ChipMap x = BENCH.chip(tape + "B<C;");
        BENCH.due("its second OPERATION would break one", x.put(2, 1), -2);
        BENCH.due("the first is not done", x.state(0), 0);
        BENCH.due("a FETCH breaks none", Bench.fetch(x, 3), 0);
        x = BENCH.chip(tape + "B<A;");
        BENCH.due("its first OPERATION would break one", x.put(2, 1), -2);
        BENCH.due("that of a FETCH", Bench.fetch(x, 3), Bench.ILLEGAL_STATE);
        BENCH.due("no OPERATION", x.state(0), 0);
        BENCH.due("no RULE is broken", x.state(1), 0);
        x = BENCH.chip(tape + "E!B;");
        x.join(4, 1);
        BENCH.due("E", x.flush(), 1);
        x.join(1, 1);
        x.join(4, 1);
        BENCH.due("B is between", x.flush(), 2);
        x.join(2, 1);
        x.join(4, 1);
        BENCH.due("the last of three would break one", x.flush(), -2);
        BENCH.due("none is done", x.state(0), 3);
        BENCH.due("they wait", x.state(2), 2);
        x.busWrite(1, 8);
        BENCH.due("none would now", x.flush(), 3);
    }

    private static void stepsOfTheScript() {
        BENCH.part("a SCRIPT has up to 40 STEPS");
        ChipMap x = BENCH.chip("@01{At15:0;}");
        for (int i = 0; i < 40; i++) {
            BENCH.due("step", x.step(PUT, 0, i), i);
        }
        BENCH.due("a 41st", x.step(PUT, 0, 40), -1);
        BENCH.due("a 41st of another kind", x.step(END, 0, 0), -1);
        BENCH.due("check", x.check(), 0);
        BENCH.due("40 STEPS and the END", x.found(0), 41);
        BENCH.due("behind the last one it ENDS", x.run(0), 0);
        BENCH.due("all are done", x.state(0), 40);
        BENCH.traceDue(x, 0, 1, 1, 39);
        BENCH.traceDue(x, 39, 1, 1, 0);
    }

    private static void scriptOf(ChipMap x, int... rows) {
        x.erase();
        for (int i = 0; i < rows.length; i += 3) {
            BENCH.due("step", x.step(rows[i], rows[i + 1], rows[i + 2]), i / 3);
        }
    }

    private static void checkDue(ChipMap x, String told, int answer, int situations, int rule) {
        BENCH.due(told + ": check", x.check(), answer);
        BENCH.due(told + ": found(0)", x.found(0), situations);
        BENCH.due(told + ": found(1)", x.found(1), rule);
    }

    private static void waysOfTheCheck() {
        BENCH.part("the CHECK goes all ways");
        ChipMap x = BENCH.chip("@01{Aw1:0;Bw3:2;Cc5:4;}@02?A=1{Dr3:0;Ew7:4;}A<B;B<A;");
        checkDue(x, "empty", 0, 1, 0);
        scriptOf(x, END, 0, 0);
        checkDue(x, "END", 0, 2, 0);
        scriptOf(x, GO, 0, 0);
        checkDue(x, "GO to itself", 0, 2, 0);
        scriptOf(x, GO, 0, 1);
        checkDue(x, "GO to the END behind it", 0, 2, 0);
        scriptOf(x, GO, 0, 40);
        checkDue(x, "GO beyond the END", 0, 2, 0);
        scriptOf(x, GO, 0, 2, PUT, 1, 1);
        checkDue(x, "one of two ways", 2, 3, 1);
        scriptOf(x, GO, 0, 2, END, 0, 0, PUT, 1, 1);
        checkDue(x, "the way that goes", 3, 4, 1);
        scriptOf(x, END, 0, 0, PUT, 1, 1);
        checkDue(x, "behind an END", 0, 2, 0);
        scriptOf(x, PUT, 1, 1, PUT, 0, 1);
        checkDue(x, "the way ends there", 1, 1, 1);
        scriptOf(x, FETCH, 3, 0);
        checkDue(x, "a FETCH that needs the BANK", 1, 1, 2);
        scriptOf(x, FETCH, 4, 0, FETCH, 2, 0, PUT, 4, 0);
        checkDue(x, "no OPERATION that needs it", 0, 4, 0);
        x.busWrite(1, 1);
        x.busWrite(1, 5);
        scriptOf(x, PUT, 1, 1);
        checkDue(x, "from the RESET, not from what is", 1, 1, 1);
        BENCH.due("the device stays as it is", x.field(1, 3), 1);
    }

    private static void whatSituationsDifferIn() {
        BENCH.part("SITUATIONS: different ones of");
        ChipMap x = BENCH.chip("@01{Aw1:0;}");
        scriptOf(x, PUT, 0, 1, GO, 0, 0);
        checkDue(x, "values of w", 0, 4, 0);
        x = BENCH.chip("@01{Ao1:0;}");
        scriptOf(x, PUT, 0, 1, GO, 0, 0);
        checkDue(x, "values of o", 0, 4, 0);
        for (char access : "tsp".toCharArray()) {
            x = BENCH.chip("@01{A" + access + "1:0;Bw2:2;}B&B=0;");
            scriptOf(x, PUT, 0, 1, GO, 0, 0);
            checkDue(x, "not in values of " + access, 0, 3, 0);
            x = BENCH.chip("@01{A" + access + "1:0;Bw2:2;}A<B;");
            scriptOf(x, PUT, 0, 1, GO, 0, 0);
            checkDue(x, "whether A of A<B was", 0, 4, 0);
            x = BENCH.chip("@01{A" + access + "1:0;Bw2:2;}B!A;");
            scriptOf(x, PUT, 0, 1, GO, 0, 0);
            checkDue(x, "not whether B of A!B was", 0, 3, 0);
            x = BENCH.chip("@01{A" + access + "1:0;Bt2:2;}A!B;");
            scriptOf(x, PUT, 0, 1, PUT, 1, 1, GO, 0, 0);
            checkDue(x, "whether A of A!B was and B not since", 0, 4, 0);
            x = BENCH.chip("@01{A" + access + "1:0;Bt2:2;}A!B;");
            scriptOf(x, GO, 0, 2, PUT, 0, 1, FETCH, 0, 0);
            checkDue(x, "whether A of A!B was", 0, 6, 0);
        }
        x = BENCH.chip("@01{Ar1:0;Bc3:2;Cp4:4=1;}");
        scriptOf(x, FETCH, 0, 0, FETCH, 1, 0, FETCH, 2, 0, GO, 0, 0);
        checkDue(x, "not in what READS change", 0, 5, 0);
        x = BENCH.chip("@01{Aw0:0;Bt1:1;}@02?A=1{Cr0:0;}@03?A=0{Dr0:0;}");
        scriptOf(x, FETCH, 2, 0, FETCH, 3, 0, GO, 0, 0);
        checkDue(x, "the BANK that was reached", 0, 4, 0);
    }
}
