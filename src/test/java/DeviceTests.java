/** Promises 6 to 9 and 21: the device by hand. */
public final class DeviceTests {
    private static final Bench BENCH = new Bench();
    private static final String ALL = "@01{Aw1:0=1;Br3:2=2;Co5:4=3;Dc7:6=3;Et9:8=3;Fs11:10=1;Gp13:12=2;}";

    public static void main(String[] args) {
        resetting();
        writing();
        writingRules();
        lookingBack();
        reading();
        pulses();
        banks();
        poking();
        counting();
        BENCH.end();
    }

    private static void valuesDue(ChipMap x, int... values) {
        for (int f = 0; f < values.length; f++) {
            BENCH.due("field(" + f + ", 3)", x.field(f, 3), values[f]);
        }
    }

    private static void resetting() {
        BENCH.part("promise 6");
        ChipMap x = BENCH.chip(ALL + "A<C;A<A;");
        valuesDue(x, 1, 2, 3, 3, 3, 1, 2);
        x.busWrite(1, 0xF3C0);
        x.busRead(1);
        x.poke(1, 0);
        x.join(0, 0);
        x.step(3, 0, 0);
        BENCH.due("reset", x.reset(), true);
        valuesDue(x, 1, 2, 3, 3, 3, 1, 2);
        BENCH.due("KEPT", x.field(3, 4), 0);
        BENCH.due("state(0)", x.state(0), 0);
        BENCH.due("state(1)", x.state(1), 0);
        BENCH.due("state(2)", x.state(2), 0);
        BENCH.due("state(3)", x.state(3), 1);
        BENCH.due("trace", x.trace(0, 0), -1);
        BENCH.due("WRITTEN before does not count", x.busWrite(1, 0x31 ^ 0x30), 1);
        BENCH.due("without a map", new ChipMap().reset(), false);
    }

    private static void writing() {
        BENCH.part("promise 7");
        ChipMap x = BENCH.chip(ALL);
        BENCH.due("only zeros", x.busWrite(1, 0), 0);
        valuesDue(x, 0, 2, 0, 3, 3, 1, 2);
        BENCH.due("t 1, s 2, p 1", x.busWrite(1, 0x1900), 0);
        valuesDue(x, 0, 2, 0, 3, 2, 3, 1);
        BENCH.due("all ones, and more", x.busWrite(1, -1), 0);
        valuesDue(x, 3, 2, 3, 3, 0, 3, 3);
        BENCH.due("its word", x.trace(0, 2), 0xFFFF);
        BENCH.due("only the lowest 16 bits", x.busWrite(1, 0x7FFF0002), 0);
        valuesDue(x, 2, 2, 0, 3, 0, 3, 3);
        BENCH.due("nothing there", x.busWrite(2, 0), -1);
        BENCH.due("offset -1", x.busWrite(-1, 0), -1);
        BENCH.due("offset 257", x.busWrite(257, 0), -1);
        BENCH.due("state(0)", x.state(0), 4);
    }

    private static void writingRules() {
        BENCH.part("promise 7, rules");
        ChipMap x = BENCH.chip("@01{Aw1:0;Bw3:2;Ct5:4;}A<B;C&B=2;C<A;");
        BENCH.due("nothing WRITTEN", x.busWrite(1, 0), 0);
        BENCH.due("A ahead of C", x.busWrite(1, 1), 3);
        BENCH.due("state(1)", x.state(1), 1);
        BENCH.due("B behind A", x.busWrite(1, 5), 0);
        BENCH.due("the same again", x.busWrite(1, 5), 0);
        BENCH.due("C while B is 1, though it becomes 2", x.busWrite(1, 0x19), 2);
        BENCH.due("C while B is 2, though it becomes 1", x.busWrite(1, 0x15), 0);
        BENCH.due("A behind C", x.busWrite(1, 6), 0);
        BENCH.due("state(1)", x.state(1), 2);
        x.reset();
        BENCH.due("three at once", x.busWrite(1, 0x15), 1);
        BENCH.due("state(1)", x.state(1), 3);
        valuesDue(x, 1, 1, 0);
        BENCH.due("they are all WRITTEN", x.busWrite(1, 0xA), 0);
        x.reset();
        BENCH.due("A does not help the B of the same WRITE", x.busWrite(1, 5), 1);
    }

    private static void lookingBack() {
        BENCH.part("promise 7, A!B");
        ChipMap x = BENCH.chip("@01{Aw3:0;Bs5:4;Cp7:6;}A!B;A!A;C!B;B<B;");
        BENCH.due("first A", x.busWrite(1, 1), 0);
        BENCH.due("second A", x.busWrite(1, 2), 1);
        BENCH.due("B, which breaks B<B once", x.busWrite(1, 0x12), 4);
        BENCH.due("A behind B", x.busWrite(1, 3), 0);
        BENCH.due("A with a B of the same WRITE, which comes too late", x.busWrite(1, 0x14), 1);
        BENCH.due("A behind a WRITE of A and B", x.busWrite(1, 5), 0);
        BENCH.due("C", x.busWrite(1, 0x45), 0);
        BENCH.due("C again, and A", x.busWrite(1, 0x46), 1);
        BENCH.due("state(1)", x.state(1), 5);
        BENCH.due("C alone", x.busWrite(1, 0x46), 3);
    }

    private static void reading() {
        BENCH.part("promise 8");
        ChipMap x = BENCH.chip(ALL);
        int word = 1 | 2 << 2 | 3 << 6 | 3 << 8 | 1 << 10 | 2 << 12;
        BENCH.due("all but the o", x.busRead(1), word);
        BENCH.due("KEPT", x.field(3, 4), 3);
        BENCH.due("the c is cleared", x.busRead(1), word & ~(3 << 6));
        x.poke(3, 1);
        BENCH.due("KEPT still", x.field(3, 4), 3);
        BENCH.due("nothing there", x.busRead(2), -1);
        BENCH.due("offset -1", x.busRead(-1), -1);
        BENCH.due("state(0)", x.state(0), 2);
        x.reset();
        x.poke(3, 1);
        x.busRead(1);
        x.poke(3, 2);
        x.busRead(1);
        BENCH.due("all bits that were set once", x.field(3, 4), 3);
    }

    private static void pulses() {
        BENCH.part("promise 8, p");
        ChipMap x = BENCH.chip("@01{Ap1:0=3;Bp3:2;}@02{Cp0:0;}");
        for (int i = 0; i < 3; i++) {
            BENCH.due("a value at RESET has no x", x.busRead(1), 3);
        }
        x.busWrite(1, 1);
        BENCH.due("first READ", x.busRead(1), 1);
        x.busRead(2);
        BENCH.due("READS elsewhere don't count", x.field(0, 3), 1);
        x.busWrite(1, 8);
        BENCH.due("an x of 0 changes nothing", x.busRead(1), 9);
        BENCH.due("A is over, B is not", x.busRead(1), 8);
        BENCH.due("all is over", x.busRead(1), 0);
        x.busWrite(1, 1);
        x.busRead(1);
        x.busWrite(1, 2);
        BENCH.due("a new x lasts two READS again", x.busRead(1), 2);
        BENCH.due("the second", x.busRead(1), 2);
        BENCH.due("over", x.busRead(1), 0);
        x.busWrite(1, 2);
        x.reset();
        for (int i = 0; i < 3; i++) {
            BENCH.due("the x of before the RESET is forgotten", x.busRead(1), 3);
        }
    }

    private static void banks() {
        BENCH.part("promises 7 and 8, banks");
        ChipMap x = BENCH.chip("@01{Aw1:0;}@02?A=1{Bw3:0=5;}@02?A=2{Cw3:0=6;}");
        BENCH.due("no READ", x.busRead(2), -1);
        BENCH.due("no WRITE", x.busWrite(2, 1), -1);
        x.busWrite(1, 1);
        BENCH.due("B", x.busRead(2), 5);
        x.busWrite(1, 2);
        BENCH.due("C", x.busRead(2), 6);
        BENCH.due("a WRITE to C", x.busWrite(2, 9), 0);
        valuesDue(x, 2, 5, 9);
        x.busWrite(1, 3);
        BENCH.due("none", x.busRead(2), -1);
    }

    private static void poking() {
        BENCH.part("promise 9");
        ChipMap x = BENCH.chip(ALL);
        boolean[] can = {false, true, false, true, true, false, false};
        for (int f = 0; f < can.length; f++) {
            BENCH.due("poke(" + f + ", 0)", x.poke(f, 0), can[f]);
            BENCH.due("value", x.field(f, 3), can[f] ? 0 : new int[] {1, 2, 3, 3, 3, 1, 2}[f]);
            BENCH.due("poke(" + f + ", 3)", x.poke(f, 3), can[f]);
            BENCH.due("poke(" + f + ", 4)", x.poke(f, 4), false);
            BENCH.due("poke(" + f + ", -1)", x.poke(f, -1), false);
        }
        valuesDue(x, 1, 3, 3, 3, 3, 1, 2);
        BENCH.due("no such field", x.poke(7, 0), false);
        BENCH.due("field -1", x.poke(-1, 0), false);
        BENCH.due("field 26", x.poke(26, 0), false);
        BENCH.due("no OPERATION", x.state(0), 0);
        ChipMap banked = BENCH.chip("@01{Aw0:0;}@02?A=1{Br15:0;}");
        BENCH.due("also where it is not THERE", banked.poke(1, 65535), true);
        BENCH.due("field(1, 3)", banked.field(1, 3), 65535);
    }

    private static void counting() {
        BENCH.part("promise 21");
        ChipMap x = BENCH.chip("@01{Aw3:0;}A<A;A!A;");
        x.busWrite(1, 1);
        x.busRead(1);
        x.busRead(9);
        x.step(3, 0, 0);
        x.step(3, 0, 0);
        x.step(3, 0, 0);
        x.put(0, 5);
        for (int i = 0; i < 4; i++) {
            x.join(0, i);
        }
        int[] due = {3, 1, 4, 3, 2};
        for (int what = 0; what < due.length; what++) {
            BENCH.due("state(" + what + ")", x.state(what), due[what]);
        }
        BENCH.due("state(5)", x.state(5), -1);
        BENCH.due("state(-1)", x.state(-1), -1);
        for (int i = 0; i < 100; i++) {
            x.busRead(1);
        }
        BENCH.due("more than are traced", x.state(0), 103);
    }
}
