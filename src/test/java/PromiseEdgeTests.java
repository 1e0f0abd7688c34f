/** The boundary cases that promises 1 to 21 name, promise by promise, on both sides of each. */
public final class PromiseEdgeTests {
    private static final Bench BENCH = new Bench();
    private static final int[] FAR = {Integer.MIN_VALUE, Integer.MIN_VALUE + 1, -256, -2, -1, 26, 27, 32, 255, 256,
        65536, Integer.MAX_VALUE};
    private static final int PUT = 0;
    private static final int FETCH = 1;
    private static final int GO = 2;
    private static final int END = 3;

    public static void main(String[] args) {
        newObject();
        typedBytes();
        typedCounts();
        typedToTheEnd();
        compiled();
        compiledWithAFault();
        compiledAnew();
        faults();
        fields();
        resets();
        busWrites();
        busReads();
        pokes();
        puts();
        fetches();
        joins();
        flushes();
        drops();
        traces();
        tracesOfAllKinds();
        steps();
        erases();
        checks();
        leastStepTold();
        thousandSituations();
        founds();
        runs();
        runsOfManyChoices();
        runsOfManySteps();
        states();
        manyCalls();
        BENCH.end();
    }

    private static void newObject() {
        BENCH.part("promise 1");
        ChipMap x = new ChipMap();
        BENCH.due("its tape is empty", Bench.compile(x), Bench.ILLEGAL_ARGUMENT);
        BENCH.due("a fault of kind 1", x.fault(0), 1);
        BENCH.due("at 0", x.fault(1), 0);
        x = new ChipMap();
        for (int f = 0; f < 26; f++) {
            for (int what = 0; what < 5; what++) {
                BENCH.due("field", x.field(f, what), -1);
            }
        }
        ChipMap other = BENCH.chip("@01{Aw0:0=1;}");
        BENCH.due("objects have nothing in common", new ChipMap().field(0, 3), -1);
        BENCH.due("the other one", other.field(0, 3), 1);
    }

    private static void typedBytes() {
        BENCH.part("promise 2, a byte that is not 33 .. 126");
        for (int c = 0; c < 256; c++) {
            ChipMap x = new ChipMap();
            boolean good = c >= 33 && c <= 126;
            BENCH.due("byte " + c, x.type(c, 1), good);
            BENCH.due("it is on the tape", Bench.compile(x, "@"), Bench.ILLEGAL_ARGUMENT);
            BENCH.due("place", x.fault(1), good && c != '@' ? 0 : 1);
        }
        for (int n = 1; n <= 8; n++) {
            for (int i = 0; i < n; i++) {
                for (int c : new int[] {0, 32, 127, 128, 255}) {
                    long word = 0x4040404040404040L & ~(255L << (8 * i)) | (long) c << (8 * i);
                    BENCH.due("byte " + i + " of " + n + " is " + c, new ChipMap().type(word, n), false);
                }
            }
        }
    }

    private static void typedCounts() {
        BENCH.part("promise 2, another n");
        for (int n : new int[] {Integer.MIN_VALUE, -8, -1, 0, 9, 10, 16, 64, Integer.MAX_VALUE}) {
            BENCH.due("n " + n, new ChipMap().type(0x4040404040404040L, n), false);
        }
        String tape = "@01{Aw0:";
        for (int n = 1; n <= 8; n++) {
            ChipMap x = new ChipMap();
            long above = n == 8 ? 0 : 0x20L << (8 * n);
            BENCH.due("n " + n, x.type(Bench.word(tape.substring(0, n)) | above, n), true);
            Bench.compile(x, "~");
            BENCH.due("n characters, the highest first", x.fault(1), n);
        }
        ChipMap x = new ChipMap();
        BENCH.due("the highest byte of all", x.type(0xC040404040404040L, 8), false);
        BENCH.due("it is not asked of 7", x.type(0xC040404040404040L, 7), true);
    }

    private static void typedToTheEnd() {
        BENCH.part("promise 2, more than 480");
        for (int n = 1; n <= 8; n++) {
            for (int room = 0; room <= 8; room++) {
                ChipMap x = filled(480 - room);
                BENCH.due(n + " where " + room + " fit", x.type(0x4040404040404040L, n), n <= room);
                int left = n <= room ? room - n : room;
                BENCH.due("the rest does", left == 0 || x.type(0x4040404040404040L, left), true);
                BENCH.due("and no more", x.type('@', 1), false);
                BENCH.due("compile", Bench.compile(x), Bench.ILLEGAL_ARGUMENT);
                BENCH.due("it is empty then", x.type(0x4040404040404040L, 8), true);
            }
        }
    }

    private static ChipMap filled(int length) {
        ChipMap x = new ChipMap();
        for (int i = 0; i < length / 8; i++) {
            x.type(0x4040404040404040L, 8);
        }
        if (length % 8 > 0) {
            x.type(0x4040404040404040L, length % 8);
        }
        return x;
    }

    private static void compiled() {
        BENCH.part("promise 3");
        ChipMap x = BENCH.chip("@01{Aw3:0;Bc7:4;Cp9:8;}A<A;");
        x.busWrite(1, 0x105);
        x.poke(1, 6);
        x.busRead(1);
        x.join(0, 2);
        x.step(PUT, 0, 1);
        x.check();
        BENCH.due("the same map again", Bench.compile(x, "@01{Aw3:0;Bc7:4;Cp9:8;}A<A;"), 1);
        for (int f = 0; f < 3; f++) {
            BENCH.due("RESET", x.field(f, 3), 0);
            BENCH.due("KEPT", x.field(f, 4), 0);
        }
        for (int what = 0; what < 4; what++) {
            BENCH.due("state(" + what + ")", x.state(what), 0);
        }
        BENCH.due("what was WRITTEN is forgotten", x.busWrite(1, 1), 1);
        BENCH.due("nothing waits", x.flush(), 0);
        BENCH.due("no STEP", x.run(0), 0);
        BENCH.due("A", x.field(0, 3), 1);
        BENCH.due("the tape is empty", Bench.compile(x), Bench.ILLEGAL_ARGUMENT);
        BENCH.due("the map stays", x.field(0, 3), 1);
        BENCH.due("a smaller map", Bench.compile(x, "@02{Bw0:0=1;}"), 1);
        BENCH.due("no A", x.field(0, 0), -1);
        BENCH.due("nothing at the old OFFSET", x.busRead(1), -1);
        BENCH.due("no RULES", x.state(4), 0);
    }

    private static void compiledWithAFault() {
        BENCH.part("promise 3, all stays as it is");
        String[] tapes = {"", "@", "@01{Aw0:0;Aw1:1;}", "@01{Aw0:0;}@01{Bw0:0;}", "@01{Aw0:0;}A<Z;"};
        int[][] fault = {{1, 0}, {1, 1}, {2, 10}, {3, 11}, {4, 13}};
        for (int i = 0; i < tapes.length; i++) {
            ChipMap x = BENCH.chip("@07{Aw3:0=3;Bc7:4=6;Cp9:8;}A<C;A!C;");
            x.busRead(7);
            x.busWrite(7, 0x304);
            x.busWrite(7, 5);
            x.busRead(7);
            x.join(0, 9);
            x.step(PUT, 2, 1);
            x.step(END, 0, 0);
            x.check();
            BENCH.due("compile of " + tapes[i], Bench.compile(x, tapes[i]), Bench.ILLEGAL_ARGUMENT);
            BENCH.due("fault(0)", x.fault(0), fault[i][0]);
            BENCH.due("fault(1)", x.fault(1), fault[i][1]);
            int[] values = {5, 0, 3};
            int[] kept = {0, 6, 0};
            for (int f = 0; f < 3; f++) {
                BENCH.due("value", x.field(f, 3), values[f]);
                BENCH.due("KEPT", x.field(f, 4), kept[f]);
            }
            int[] state = {4, 1, 1, 2, 2};
            for (int what = 0; what < 5; what++) {
                BENCH.due("state(" + what + ")", x.state(what), state[what]);
            }
            BENCH.due("found(0)", x.found(0), 1);
            BENCH.due("found(1)", x.found(1), 1);
            BENCH.traceDue(x, 2, 1, 7, 0x304);
            BENCH.due("the PUT that waits", x.flush(), -2);
            BENCH.due("the p's second READ", x.busRead(7), 0x305);
            BENCH.due("is over", x.busRead(7), 5);
            BENCH.due("the tape is empty", Bench.compile(x, "@01{Aw0:0;}"), 1);
        }
    }

    private static void compiledAnew() {
        BENCH.part("promise 3, nothing of an earlier tape is left");
        String earlier = "@01{Aw0:0;Bw1:1;}@02{Cw0:0;Dw1:1;}A<B;A!B;";
        String[] tapes = {"@01{Aw0:0;}A<B;", "@01{Aw0:0;Bw1:1;}A<C;", "@01{Aw0:0;}@03?C=1{Bw0:0;}",
            "@01{Aw0:0;}@03?D=1{Bw0:0;}", "@01{Aw0:0;Bw1:1;}@02{Cw0:0;}D&A=1;"};
        int[][] fault = {{4, 13}, {4, 19}, {3, 15}, {3, 15}, {4, 28}};
        for (int i = 0; i < tapes.length; i++) {
            ChipMap x = BENCH.chip(earlier);
            BENCH.due("compile of " + tapes[i], Bench.compile(x, tapes[i]), Bench.ILLEGAL_ARGUMENT);
            BENCH.due("fault(0)", x.fault(0), fault[i][0]);
            BENCH.due("fault(1)", x.fault(1), fault[i][1]);
        }
        ChipMap x = BENCH.chip(earlier);
        BENCH.due("the same OFFSETS, bits and names again", Bench.compile(x, earlier), 2);
        BENCH.due("one of them alone", Bench.compile(x, "@02{Bw1:1;}"), 1);
        BENCH.due("no RULES", x.state(4), 0);
    }

    private static void faults() {
        BENCH.part("promise 4");
        ChipMap x = new ChipMap();
        for (int what : new int[] {Integer.MIN_VALUE, -1, 2, 3, Integer.MAX_VALUE}) {
            BENCH.due("fault(" + what + ") ahead of a compile()", x.fault(what), -1);
        }
        BENCH.due("fault(0)", x.fault(0), 0);
        BENCH.due("fault(1)", x.fault(1), 0);
        Bench.compile(x, "@01{Aw0:1;}");
        BENCH.due("fault(0)", x.fault(0), 2);
        BENCH.due("fault(1)", x.fault(1), 4);
        BENCH.due("fault(2)", x.fault(2), -1);
        x.reset();
        x.type('@', 1);
        BENCH.due("of the latest compile()", x.fault(0), 2);
        BENCH.due("the rest of the tape", Bench.compile(x, "01{Aw0:0;}"), 1);
        BENCH.due("0 for none", x.fault(0), 0);
        BENCH.due("0 without one", x.fault(1), 0);
        Bench.compile(x, "@01{Aw0:0;}A<A;B<A;");
        BENCH.due("a fault behind a map", x.fault(0), 4);
        BENCH.due("its place", x.fault(1), 15);
    }

    private static void fields() {
        BENCH.part("promise 5");
        ChipMap x = BENCH.chip("@01{Aw15:15=1;}@02{Zc14:0=7fff;}@03?A=0{Mo15:0=ffff;}");
        int[] names = {0, 25, 12};
        int[][] due = {{0, 15, 1, 1, 0}, {1, 0, 15, 0x7fff, 0}, {2, 0, 16, 0xffff, 0}};
        for (int i = 0; i < 3; i++) {
            for (int what = 0; what < 5; what++) {
                BENCH.due("field(" + names[i] + ", " + what + ")", x.field(names[i], what), due[i][what]);
            }
            for (int what : new int[] {Integer.MIN_VALUE, -1, 5, 6, Integer.MAX_VALUE}) {
                BENCH.due("field(" + names[i] + ", " + what + ")", x.field(names[i], what), -1);
            }
        }
        for (int f = 0; f < 26; f++) {
            BENCH.due("field(" + f + ", 2) is one", x.field(f, 2) > 0, f == 0 || f == 12 || f == 25);
        }
        for (int f : FAR) {
            BENCH.due("field(" + f + ", 0)", x.field(f, 0), -1);
        }
        x.busRead(2);
        BENCH.due("all 15 bits are KEPT", x.field(25, 4), 0x7fff);
    }

    private static void resets() {
        BENCH.part("promise 6");
        ChipMap x = new ChipMap();
        BENCH.due("without a map", x.reset(), false);
        Bench.compile(x, "@01{Aw0:1;}");
        BENCH.due("with a fault alone", x.reset(), false);
        Bench.compile(x, "@01{Aw3:0=4;Bc7:4=5;Cp9:8;}A<C;A!C;");
        BENCH.due("with a map", x.reset(), true);
        x.busWrite(1, 0x301);
        x.busRead(1);
        x.join(0, 2);
        x.step(PUT, 0, 5);
        x.check();
        BENCH.due("reset", x.reset(), true);
        int[] values = {4, 5, 0};
        for (int f = 0; f < 3; f++) {
            BENCH.due("value", x.field(f, 3), values[f]);
            BENCH.due("KEPT", x.field(f, 4), 0);
        }
        int[] state = {0, 0, 0, 1, 2};
        for (int what = 0; what < 5; what++) {
            BENCH.due("state(" + what + ")", x.state(what), state[what]);
        }
        BENCH.due("trace", x.trace(0, 0), -1);
        BENCH.due("again", x.reset(), true);
        BENCH.due("C, A was not since", x.busWrite(1, 0x104), 1);
        BENCH.due("the script stays", x.run(0), 0);
        BENCH.due("A", x.field(0, 3), 5);
    }

    private static void busWrites() {
        BENCH.part("promise 7");
        ChipMap x = BENCH.chip("@00{Aw15:0;}@ff{Bw15:0;}@80{Cw15:0;}");
        int[] offsets = {0, 255, 128};
        for (int i = 0; i < 3; i++) {
            BENCH.due("busWrite", x.busWrite(offsets[i], 0x12340000 | 7 + i), 0);
            BENCH.due("the lowest 16 bits", x.field(i, 3), 7 + i);
            BENCH.traceDue(x, 0, 1, offsets[i], 7 + i);
        }
        BENCH.due("-1 is a word of ones", x.busWrite(0, -1), 0);
        BENCH.due("A", x.field(0, 3), 65535);
        BENCH.due("65536 is a word of zeros", x.busWrite(0, 65536), 0);
        BENCH.due("A", x.field(0, 3), 0);
        for (int offset : new int[] {1, 127, 129, 254, 256, 511, -1, -128, -255, -256, 65536, Integer.MIN_VALUE,
            Integer.MAX_VALUE}) {
            BENCH.due("nothing at " + offset, x.busWrite(offset, 1), -1);
        }
        BENCH.due("OPERATIONS", x.state(0), 5);
        x = BENCH.chip("@01{Aw0:0;}" + "A&A=0;".repeat(11) + "A&A=1;");
        BENCH.due("the twelfth alone", x.busWrite(1, 1), 12);
        BENCH.due("the other eleven", x.busWrite(1, 0), 1);
        BENCH.due("state(1)", x.state(1), 12);
        BENCH.due("none", x.busWrite(1, 0), 0);
        BENCH.due("no REGISTER without a map", new ChipMap().busWrite(0, 0), -1);
    }

    private static void busReads() {
        BENCH.part("promise 8");
        ChipMap x = BENCH.chip("@00{Ar15:0=ffff;}@ff{Bc15:0=8001;}@80?C=1{Dr0:0;}@81{Cw0:0;}");
        BENCH.due("offset 0", x.busRead(0), 65535);
        BENCH.due("offset 255", x.busRead(255), 0x8001);
        BENCH.due("KEPT", x.field(1, 4), 0x8001);
        BENCH.due("again", x.busRead(255), 0);
        BENCH.due("its BANK", x.busRead(128), -1);
        for (int offset : new int[] {1, 254, 256, -1, -256, -255, Integer.MIN_VALUE, Integer.MAX_VALUE}) {
            BENCH.due("nothing at " + offset, x.busRead(offset), -1);
        }
        BENCH.due("OPERATIONS", x.state(0), 3);
        x.busWrite(129, 1);
        BENCH.due("its BANK now", x.busRead(128), 0);
        BENCH.due("no REGISTER without a map", new ChipMap().busRead(0), -1);
    }

    private static void pokes() {
        BENCH.part("promise 9");
        for (char access : "wroctsp".toCharArray()) {
            boolean can = access == 'r' || access == 'c' || access == 't';
            for (int v : new int[] {Integer.MIN_VALUE, -1, 0, 1, 7, 8, 65536, Integer.MAX_VALUE}) {
                ChipMap x = BENCH.chip("@01{Bw0:0;A" + access + "3:1=2;Cw4:4;}");
                boolean good = can && v >= 0 && v <= 7;
                BENCH.due("poke of " + v + " to " + access, x.poke(0, v), good);
                BENCH.due("value", x.field(0, 3), good ? v : 2);
                BENCH.due("its neighbours", x.field(1, 3) + x.field(2, 3), 0);
            }
        }
        ChipMap x = BENCH.chip("@01{Ar15:0;}@02{Bw0:0;}@03?B=1{Zt15:0;}");
        BENCH.due("16 bits", x.poke(0, 65535), true);
        BENCH.due("17 bits", x.poke(0, 65536), false);
        BENCH.due("value", x.field(0, 3), 65535);
        BENCH.due("a REGISTER that is not THERE", x.poke(25, 65535), true);
        for (int f : FAR) {
            BENCH.due("poke of " + f, x.poke(f, 0), false);
        }
        BENCH.due("no such field", x.poke(2, 0), false);
        BENCH.due("no OPERATION", x.state(0), 0);
        x = BENCH.chip("@01{At3:0;Bw4:4;}A<B;");
        x.poke(0, 3);
        BENCH.due("it is not WRITTEN", x.busWrite(1, 16), 1);
        x = BENCH.chip("@01{Ac3:0;}");
        x.poke(0, 3);
        x.busRead(1);
        x.poke(0, 0);
        BENCH.due("what is KEPT stays", x.field(0, 4), 3);
    }

    private static void puts() {
        BENCH.part("promise 10");
        ChipMap x = BENCH.chip("@01{Aw1:0;Br2:2;}@02?A=1{Zw3:0;}A<A;");
        for (int f : FAR) {
            BENCH.due("put(" + f + ", 0)", x.put(f, 0), -1);
        }
        BENCH.due("no such field", x.put(2, 0), -1);
        BENCH.due("it is none", x.put(1, 0), -1);
        BENCH.due("refused", x.put(0, 1), -2);
        BENCH.due("refused on the way", x.put(25, 1), -2);
        BENCH.due("none is needed", x.put(0, 0), 0);
        BENCH.due("none is needed", x.put(25, 0), 0);
        x.join(0, 0);
        BENCH.due("JOINED, though none is needed", x.put(0, 0), -1);
        BENCH.due("JOINED, ahead of refused", x.put(0, 1), -1);
        x.drop();
        BENCH.due("JOINED no more", x.put(0, 0), 0);
        BENCH.due("no OPERATION so far", x.state(0), 0);
        x.busWrite(1, 2);
        BENCH.due("one", x.put(0, 3), 1);
        BENCH.due("two", x.put(25, 15), 2);
        BENCH.due("16 does not fit", x.put(25, 16), -1);
        BENCH.due("without a map", new ChipMap().put(0, 0), -1);
    }

    private static void fetches() {
        BENCH.part("promise 11");
        ChipMap x = BENCH.chip("@01{Aw1:0=2;Bo2:2;}@02?A=1{Zr15:0=ffff;}A<A;");
        for (int f : FAR) {
            BENCH.due("fetch(" + f + ")", Bench.fetch(x, f), Bench.INDEX_OUT);
        }
        BENCH.due("no such field", Bench.fetch(x, 2), Bench.INDEX_OUT);
        BENCH.due("it is none", Bench.fetch(x, 1), Bench.INDEX_OUT);
        BENCH.due("a w", Bench.fetch(x, 0), 2);
        BENCH.due("refused", Bench.fetch(x, 25), Bench.ILLEGAL_STATE);
        x.join(0, 2);
        BENCH.due("JOINED", Bench.fetch(x, 0), Bench.ILLEGAL_STATE);
        BENCH.due("JOINED, none", Bench.fetch(x, 1), Bench.INDEX_OUT);
        BENCH.due("JOINED, no such field", Bench.fetch(x, 26), Bench.INDEX_OUT);
        x.drop();
        BENCH.due("JOINED no more", Bench.fetch(x, 0), 2);
        BENCH.due("no OPERATION so far", x.state(0), 0);
        x.busWrite(1, 3);
        BENCH.due("all 16 bits", Bench.fetch(x, 25), 65535);
        BENCH.due("OPERATIONS", x.state(0), 3);
        BENCH.due("without a map", Bench.fetch(new ChipMap(), 0), Bench.INDEX_OUT);
    }

    private static void joins() {
        BENCH.part("promise 12");
        ChipMap x = BENCH.chip("@01{Aw1:0;Br2:2;}A<A;");
        for (int f : FAR) {
            BENCH.due("join(" + f + ", 0)", x.join(f, 0), -1);
        }
        BENCH.due("no such field", x.join(2, 0), -1);
        BENCH.due("it is none", x.join(1, 0), -1);
        for (int i = 1; i <= 8; i++) {
            BENCH.due("also one that would be refused", x.join(0, i % 4), i);
            BENCH.due("none", x.join(0, 4), -1);
            BENCH.due("state(2)", x.state(2), i);
        }
        BENCH.due("8 wait", x.join(0, 1), -1);
        BENCH.due("8 wait", x.state(2), 8);
        x.drop();
        BENCH.due("0 waited", x.join(0, 1), 1);
        BENCH.due("without a map", new ChipMap().join(0, 0), -1);
    }

    private static void flushes() {
        BENCH.part("promise 13");
        BENCH.due("without a map", new ChipMap().flush(), 0);
        // 8 registers in banks that exclude one another: each needs two WRITES.
        StringBuilder tape = new StringBuilder("@00{Aw3:0;}");
        for (int i = 1; i <= 8; i++) {
            tape.append("@01?A=").append(i).append('{').append((char) ('A' + i)).append("w15:0;}");
        }
        ChipMap x = BENCH.chip(tape.toString());
        BENCH.due("none wait", x.flush(), 0);
        for (int i = 1; i <= 8; i++) {
            x.join(i, 100 + i);
        }
        BENCH.due("the most OPERATIONS", x.flush(), 16);
        BENCH.due("none wait then", x.state(2), 0);
        for (int i = 1; i <= 8; i++) {
            BENCH.due("value", x.field(i, 3), 100 + i);
            BENCH.traceDue(x, 2 * (8 - i), 1, 1, 100 + i);
            BENCH.traceDue(x, 2 * (8 - i) + 1, 1, 0, i);
        }
        BENCH.due("none wait", x.flush(), 0);
        x = BENCH.chip(tape + "I<H;");
        for (int i = 8; i >= 1; i--) {
            x.join(i, 1);
        }
        BENCH.due("the other way round", x.flush(), 16);
        x.reset();
        for (int i = 1; i <= 8; i++) {
            x.join(i, 1);
        }
        BENCH.due("refused for the 14th", x.flush(), -2);
        BENCH.due("none is done", x.state(0), 0);
        BENCH.due("they wait", x.state(2), 8);
        BENCH.due("a ninth", x.join(1, 1), -1);
        BENCH.due("refused again", x.flush(), -2);
        BENCH.due("they are forgotten", x.drop(), 8);
    }

    private static void drops() {
        BENCH.part("promise 14");
        BENCH.due("without a map", new ChipMap().drop(), 0);
        ChipMap x = BENCH.chip("@01{Aw1:0;}");
        for (int count = 0; count <= 8; count++) {
            for (int i = 0; i < count; i++) {
                x.join(0, 3);
            }
            BENCH.due("drop", x.drop(), count);
            BENCH.due("none are left", x.state(2), 0);
            BENCH.due("none are left", x.drop(), 0);
        }
        BENCH.due("A", x.field(0, 3), 0);
        BENCH.due("no OPERATION", x.state(0), 0);
    }

    private static void traces() {
        BENCH.part("promise 15");
        for (int count : new int[] {0, 1, 2, 63, 64, 65, 66, 128, 129, 200}) {
            ChipMap x = BENCH.chip("@fe{Aw15:0;}");
            for (int i = 0; i < count; i++) {
                x.busWrite(254, i);
            }
            int most = Math.min(count, 64);
            for (int k : new int[] {0, 1, 31, 62, 63}) {
                if (k < most) {
                    BENCH.traceDue(x, k, 1, 254, count - 1 - k);
                }
            }
            for (int what = 0; what < 3; what++) {
                BENCH.due("behind the last of " + count, x.trace(most, what), -1);
                BENCH.due("far behind", x.trace(most + 64, what), -1);
                BENCH.due("trace(-1)", x.trace(-1, what), -1);
                BENCH.due("trace(-64)", x.trace(-64, what), -1);
            }
            if (most > 0) {
                BENCH.due("the oldest", x.trace(most - 1, 2), count - most);
            }
            for (int what : new int[] {Integer.MIN_VALUE, -1, 3, 4, Integer.MAX_VALUE}) {
                BENCH.due("trace(0, " + what + ")", x.trace(0, what), -1);
            }
            BENCH.due("trace(most negative)", x.trace(Integer.MIN_VALUE, 0), -1);
            BENCH.due("trace(most positive)", x.trace(Integer.MAX_VALUE, 0), -1);
            BENCH.due("all are counted", x.state(0), count);
        }
    }

    private static void tracesOfAllKinds() {
        ChipMap x = BENCH.chip("@00{Aw1:0;}@ff?A=3{Br15:0=ffff;}");
        x.busRead(0);
        BENCH.traceDue(x, 0, 0, 0, 0);
        x.busWrite(0, -1);
        BENCH.traceDue(x, 0, 1, 0, 0xFFFF);
        Bench.fetch(x, 1);
        BENCH.traceDue(x, 0, 0, 255, 0xFFFF);
        x.put(0, 0);
        BENCH.traceDue(x, 0, 1, 0, 0);
        x.join(0, 1);
        x.flush();
        BENCH.traceDue(x, 0, 1, 0, 1);
        x.step(PUT, 0, 2);
        x.run(0);
        BENCH.traceDue(x, 0, 1, 0, 2);
        x.check();
        x.busRead(1);
        x.busWrite(1, 1);
        x.put(0, 2);
        BENCH.traceDue(x, 0, 1, 0, 2);
        BENCH.traceDue(x, 5, 0, 0, 0);
        BENCH.due("trace(6, 0)", x.trace(6, 0), -1);
    }

    private static void steps() {
        BENCH.part("promise 16");
        ChipMap x = new ChipMap();
        for (int kind = 0; kind < 4; kind++) {
            BENCH.due("no map", x.step(kind, 0, 0), -1);
        }
        x = BENCH.chip("@01{Aw1:0;Br2:2;Co3:3;}A<A;");
        for (int kind : new int[] {Integer.MIN_VALUE, -1, 4, 5, Integer.MAX_VALUE}) {
            BENCH.due("kind " + kind, x.step(kind, 0, 0), -1);
        }
        for (int f : FAR) {
            BENCH.due("PUT to " + f, x.step(PUT, f, 0), -1);
            BENCH.due("FETCH of " + f, x.step(FETCH, f, 0), -1);
        }
        BENCH.due("PUT to none", x.step(PUT, 3, 0), -1);
        BENCH.due("FETCH of none", x.step(FETCH, 3, 0), -1);
        BENCH.due("PUT to an r", x.step(PUT, 1, 0), -1);
        BENCH.due("FETCH of an o", x.step(FETCH, 2, 0), -1);
        BENCH.due("PUT of 4", x.step(PUT, 0, 4), -1);
        BENCH.due("PUT of -1", x.step(PUT, 0, -1), -1);
        for (int v : new int[] {Integer.MIN_VALUE, -1, 41, 42, Integer.MAX_VALUE}) {
            BENCH.due("GO to " + v, x.step(GO, 0, v), -1);
        }
        BENCH.due("none so far", x.state(3), 0);
        BENCH.due("GO to 0", x.step(GO, Integer.MIN_VALUE, 0), 0);
        BENCH.due("GO to 40", x.step(GO, Integer.MAX_VALUE, 40), 1);
        BENCH.due("PUT of 3", x.step(PUT, 0, 3), 2);
        BENCH.due("PUT of 0, which needs nothing", x.step(PUT, 0, 0), 3);
        BENCH.due("FETCH, whatever v", x.step(FETCH, 0, Integer.MAX_VALUE), 4);
        BENCH.due("END, whatever f and v", x.step(END, Integer.MIN_VALUE, Integer.MAX_VALUE), 5);
        x.join(0, 1);
        BENCH.due("while PUTS are JOINED", x.step(PUT, 2, 1), 6);
        for (int i = 7; i < 40; i++) {
            BENCH.due("step", x.step(END, 0, 0), i);
        }
        for (int kind = 0; kind < 4; kind++) {
            BENCH.due("there are 40", x.step(kind, 0, 0), -1);
        }
        BENCH.due("state(3)", x.state(3), 40);
    }

    private static void erases() {
        BENCH.part("promise 17");
        BENCH.due("without a map", new ChipMap().erase(), 0);
        ChipMap x = BENCH.chip("@01{Aw1:0;}");
        for (int count : new int[] {0, 1, 2, 39, 40}) {
            for (int i = 0; i < count; i++) {
                BENCH.due("step", x.step(PUT, 0, 1), i);
            }
            BENCH.due("erase", x.erase(), count);
            BENCH.due("state(3)", x.state(3), 0);
            BENCH.due("again", x.erase(), 0);
        }
        x.join(0, 2);
        x.step(END, 0, 0);
        x.erase();
        BENCH.due("what waits stays", x.state(2), 1);
        BENCH.due("check", x.check(), 0);
        BENCH.due("found(0)", x.found(0), 1);
    }

    private static void checks() {
        BENCH.part("promise 18");
        ChipMap x = new ChipMap();
        BENCH.due("without a map", x.check(), -1);
        BENCH.due("found(0)", x.found(0), 0);
        x = BENCH.chip("@01{Aw1:0;Bw3:2;}A<B;");
        for (int i = 0; i < 39; i++) {
            x.step(FETCH, 0, 0);
        }
        x.step(PUT, 1, 1);
        BENCH.due("the last of 40 STEPS", x.check(), 40);
        BENCH.due("found(0)", x.found(0), 40);
        BENCH.due("found(1)", x.found(1), 1);
        x.erase();
        x.step(PUT, 1, 1);
        BENCH.due("the first STEP", x.check(), 1);
        x.join(0, 1);
        BENCH.due("while PUTS are JOINED", x.check(), 1);
        BENCH.due("they wait still", x.flush(), 1);
        BENCH.due("from the RESET, not from the device as it is", x.check(), 1);
        BENCH.due("the device stays as it is", x.field(0, 3), 1);
        BENCH.due("OPERATIONS", x.state(0), 1);
    }

    private static void leastStepTold() {
        BENCH.part("promise 18, the least STEP told");
        // PUTS of 1 to B break the rule; whichever way is gone first, the least of these is told.
        int[][] scripts = {
            {GO, 3, FETCH, 0, PUT, 1, PUT, 1},
            {GO, 3, END, 0, PUT, 1, GO, 2, FETCH, 0, PUT, 1},
            {GO, 5, GO, 4, END, 0, PUT, 1, PUT, 1, PUT, 1, GO, 3},
            {GO, 2, GO, 6, GO, 5, PUT, 1, PUT, 1, PUT, 1, PUT, 1},
            {GO, 4, GO, 3, GO, 5, PUT, 1, GO, 2, PUT, 1},
            {FETCH, 0, GO, 3, GO, 1, END, 0, PUT, 1}};
        int[] due = {3, 3, 5, 4, 4, 0};
        for (int i = 0; i < scripts.length; i++) {
            ChipMap x = BENCH.chip("@01{Aw1:0;Bw3:2;}A<B;");
            for (int k = 0; k < scripts[i].length; k += 2) {
                int kind = scripts[i][k];
                x.step(kind, kind == PUT ? 1 : 0, scripts[i][k + 1]);
            }
            BENCH.due("script " + i, x.check(), due[i]);
            BENCH.due("its RULE", x.found(1), due[i] == 0 ? 0 : 1);
        }
    }

    /**
     * 7 bits that may be set or not: 254 situations of 14 steps, and 128 states behind them. Then a
     * step for each of these, until a bit is set on all ways, and half as many are left.
     */
    private static ChipMap manySituations(String rules, int steps) {
        ChipMap x = BENCH.chip("@01{Aw0:0;Bw1:1;Cw2:2;Dw3:3;Ew4:4;Fw5:5;Gw6:6;Hw7:7;}" + rules);
        for (int k = 0; k < 7; k++) {
            x.step(GO, 0, 2 * k + 2);
            x.step(PUT, k, 1);
        }
        int[] levels = {4, 2, 1, 2, 2, 4, 4};
        for (int k = 0; k < 7; k++) {
            for (int i = 1; i < levels[k]; i++) {
                x.step(FETCH, 0, 0);
            }
            x.step(PUT, k, 1);
        }
        for (int i = 0; i < steps; i++) {
            x.step(i == 0 ? PUT : FETCH, 7, 1);
        }
        return x;
    }

    private static void thousandSituations() {
        BENCH.part("promises 18 and 19, 1000 SITUATIONS");
        int[] answers = {0, 0, -2, -2};
        int[] situations = {999, 1000, 1000, 1000};
        for (int steps = 0; steps < 4; steps++) {
            ChipMap x = manySituations("", steps);
            BENCH.due("check", x.check(), answers[steps]);
            BENCH.due("found(0)", x.found(0), situations[steps]);
            BENCH.due("found(1)", x.found(1), 0);
        }
        ChipMap x = manySituations("H<H;", 1);
        BENCH.due("a STEP is told in the 999th", x.check(), 34);
        BENCH.due("found(0)", x.found(0), 999);
        BENCH.due("found(1)", x.found(1), 1);
        x.erase();
        BENCH.due("then a small one", x.check(), 0);
        BENCH.due("found(0)", x.found(0), 1);
        // Step 17 sets A on ways on which B was set; these end there, others come to the same states.
        x = manySituations("A&B=0;", 1);
        BENCH.due("1000, and a STEP is told", x.check(), 18);
        BENCH.due("found(0)", x.found(0), 1000);
        BENCH.due("found(1)", x.found(1), 1);
        x = manySituations("A&B=0;", 2);
        BENCH.due("1001, though a STEP is told", x.check(), -2);
        BENCH.due("found(0)", x.found(0), 1000);
        BENCH.due("found(1)", x.found(1), 0);
    }

    private static void founds() {
        BENCH.part("promise 19");
        ChipMap x = new ChipMap();
        for (int what : new int[] {Integer.MIN_VALUE, -1, 2, 3, Integer.MAX_VALUE}) {
            BENCH.due("found(" + what + ")", x.found(what), -1);
        }
        BENCH.due("found(0)", x.found(0), 0);
        BENCH.due("found(1)", x.found(1), 0);
        x = BENCH.chip("@01{Aw0:0;Bw1:1;}" + "A!A;".repeat(11) + "A<B;");
        x.step(PUT, 1, 1);
        BENCH.due("ahead of a check()", x.found(0), 0);
        BENCH.due("ahead of a check()", x.found(1), 0);
        BENCH.due("check", x.check(), 1);
        BENCH.due("the twelfth RULE", x.found(1), 12);
        BENCH.due("SITUATIONS", x.found(0), 1);
        BENCH.due("found(2)", x.found(2), -1);
        BENCH.due("found(-1)", x.found(-1), -1);
        x.erase();
        x.step(END, 0, 0);
        BENCH.due("of the latest check()", x.found(1), 12);
        x.check();
        BENCH.due("0 without one", x.found(1), 0);
        BENCH.due("SITUATIONS", x.found(0), 2);
        x = BENCH.chip("@01{Aw0:0;}@02?A=1{Bw0:0;Cw1:1;}C<B;B<C;A<A;B&B=1;");
        x.step(PUT, 1, 1);
        BENCH.due("check", x.check(), 1);
        BENCH.due("the first OPERATION breaks first", x.found(1), 3);
        x = BENCH.chip("@01{Aw0:0;Bw1:1;Cw2:2;}B&C=1;A<B;");
        x.step(GO, 0, 2);
        x.step(PUT, 2, 1);
        x.step(PUT, 1, 1);
        BENCH.due("check", x.check(), 3);
        BENCH.due("the least of all ways", x.found(1), 1);
    }

    private static void runs() {
        BENCH.part("promise 20");
        ChipMap x = new ChipMap();
        BENCH.due("without a map", x.run(0), -1);
        x = BENCH.chip("@01{Aw1:0;Bw3:2;}A<B;");
        BENCH.due("an empty script", x.run(-1), 0);
        x.step(PUT, 0, 1);
        x.step(END, 0, 0);
        x.step(PUT, 0, 2);
        x.join(1, 1);
        BENCH.due("JOINED", x.run(0), -1);
        BENCH.due("nothing is done", x.state(0), 0);
        x.drop();
        BENCH.due("to the END", x.run(0), 0);
        BENCH.due("A", x.field(0, 3), 1);
        x.reset();
        x.erase();
        for (int i = 0; i < 39; i++) {
            x.step(FETCH, 0, 0);
        }
        x.step(PUT, 1, 1);
        BENCH.due("the last of 40 is REFUSED", x.run(0), 40);
        x.busWrite(1, 1);
        BENCH.due("on the device as it is", x.run(0), 0);
        x.reset();
        x.erase();
        x.step(PUT, 1, 1);
        x.step(PUT, 0, 1);
        BENCH.due("the first is REFUSED", x.run(0), 1);
        BENCH.due("it ends there", x.field(0, 3), 0);
        BENCH.due("no RULE is broken", x.state(1), 0);
        x.erase();
        x.step(GO, 0, 40);
        x.step(PUT, 0, 1);
        BENCH.due("to the END beyond the last one", x.run(1), 0);
        BENCH.due("A", x.field(0, 3), 0);
        BENCH.due("not going", x.run(-2), 0);
        BENCH.due("A", x.field(0, 3), 1);
    }

    private static void runsOfManyChoices() {
        BENCH.part("promise 20, choices");
        // A round is a PUT and a GO back: the first bit that is 0 ends it.
        for (int ones = 0; ones < 32; ones++) {
            ChipMap x = BENCH.chip("@01{At15:0;}");
            x.step(PUT, 0, 1);
            x.step(GO, 0, 0);
            int choices = (1 << ones) - 1;
            BENCH.due("run(" + choices + ")", x.run(choices), 0);
            BENCH.due("PUTS", x.state(0), ones + 1);
            BENCH.due("bits above don't matter", x.run(choices | -2 << ones), 0);
            BENCH.due("PUTS", x.state(0), 2 * ones + 2);
        }
        ChipMap x = BENCH.chip("@01{At15:0;}");
        x.step(PUT, 0, 1);
        x.step(GO, 0, 0);
        BENCH.due("all ones", x.run(-1), -2);
        BENCH.due("150 rounds", x.state(0), 150);
        // 19 GOs to the END, a PUT behind each: as many PUTS are done as bits are 0 ahead of the 1.
        for (int bit = 0; bit < 32; bit++) {
            x = BENCH.chip("@01{At15:0;}");
            for (int i = 0; i < 38; i++) {
                x.step(i % 2 == 0 ? GO : PUT, 0, i % 2 == 0 ? 40 : i);
            }
            BENCH.due("run", x.run(1 << bit), 0);
            BENCH.due("PUTS ahead of bit " + bit, x.state(0), Math.min(bit, 19));
        }
        x = BENCH.chip("@01{At15:0;}");
        for (int i = 0; i < 33; i++) {
            x.step(GO, 0, i + 1);
        }
        x.step(GO, 0, 40);
        x.step(PUT, 0, 1);
        BENCH.due("the 34th GO looks at the second bit", x.run(2), 0);
        BENCH.due("it goes", x.state(0), 0);
        BENCH.due("the 34th GO", x.run(~2), 0);
        BENCH.due("it does not go", x.state(0), 1);
        BENCH.due("choices are looked at anew in each run", x.run(2), 0);
        BENCH.due("it goes", x.state(0), 1);
    }

    private static void runsOfManySteps() {
        BENCH.part("promise 20, at most 300 STEPS");
        // Rounds of 10 steps, the last of them a GO back; 29 go back, one does not.
        for (int behind = 0; behind <= 2; behind++) {
            ChipMap x = BENCH.chip("@01{At15:0;}");
            for (int i = 0; i < 9; i++) {
                x.step(PUT, 0, 1);
            }
            x.step(GO, 0, 0);
            for (int i = 0; i < behind; i++) {
                x.step(PUT, 0, 1);
            }
            BENCH.due("300 STEPS and " + behind, x.run((1 << 29) - 1), behind == 0 ? 0 : -2);
            BENCH.due("no more than 300 are done", x.state(0), 270);
            BENCH.due("290 STEPS and " + behind, x.run((1 << 28) - 1), 0);
            BENCH.due("all are done", x.state(0), 270 + 261 + behind);
        }
        // Rounds of 13: 23 of them are 299 STEPS; the 300th is an END, a PUT, or one that is REFUSED.
        int[][] last = {{END, 0, 0}, {PUT, 1, 1}, {FETCH, 1, 0}};
        for (int[] step : last) {
            ChipMap x = BENCH.chip("@01{Aw15:1;Bw0:0;}A<B;");
            for (int i = 0; i < 12; i++) {
                x.step(FETCH, 0, 0);
            }
            x.step(GO, 0, 0);
            x.step(step[0], step[1], step[2]);
            x.step(END, 0, 0);
            int due = step[0] == END ? 0 : step[0] == PUT ? 14 : -2;
            BENCH.due("the 300th is of kind " + step[0], x.run((1 << 22) - 1), due);
        }
        ChipMap x = BENCH.chip("@01{Aw0:0;}");
        x.step(GO, 0, 0);
        BENCH.due("GOs are STEPS too", x.run(-1), -2);
    }

    private static void states() {
        BENCH.part("promise 21");
        ChipMap x = new ChipMap();
        for (int what : new int[] {Integer.MIN_VALUE, -1, 5, 6, Integer.MAX_VALUE}) {
            BENCH.due("state(" + what + ")", x.state(what), -1);
        }
        for (int what = 0; what < 5; what++) {
            BENCH.due("state(" + what + ") of a new object", x.state(what), 0);
        }
        x = BENCH.chip("@01{Aw3:0;}" + "A&A=0;".repeat(12));
        BENCH.due("12 RULES", x.state(4), 12);
        x.busWrite(1, 1);
        BENCH.due("none is broken", x.state(1), 0);
        x.busWrite(1, 2);
        BENCH.due("each RULE once", x.state(1), 12);
        BENCH.due("PUTS that are REFUSED break none", x.put(0, 3), -2);
        BENCH.due("state(1)", x.state(1), 12);
        BENCH.due("state(0)", x.state(0), 2);
        x.busWrite(1, 3);
        BENCH.due("each WRITE anew", x.state(1), 24);
        x.busWrite(9, 3);
        x.busRead(9);
        BENCH.due("where no REGISTER is THERE", x.state(0), 3);
        for (int i = 0; i < 8; i++) {
            x.join(0, 3);
        }
        x.join(0, 3);
        BENCH.due("state(2)", x.state(2), 8);
        x.flush();
        BENCH.due("state(2)", x.state(2), 0);
        BENCH.due("state(0)", x.state(0), 3);
        x.reset();
        BENCH.due("state(0)", x.state(0), 0);
        BENCH.due("state(1)", x.state(1), 0);
        BENCH.due("state(4)", x.state(4), 12);
        BENCH.due("state(5)", x.state(5), -1);
        BENCH.due("state(-1)", x.state(-1), -1);
    }

    private static void manyCalls() {
        BENCH.part("at most 512 calls");
        ChipMap x = BENCH.chip("@01{Aw15:0;}A<A;A!A;");
        // Typing and compile() are 4 calls, fault(0) is one: 507 are left.
        for (int i = 1; i <= 505; i++) {
            BENCH.due("WRITE " + i, x.busWrite(1, i), i == 1 ? 1 : 0);
        }
        BENCH.due("all are counted", x.state(0), 505);
        BENCH.due("the 512th call", x.trace(63, 2), 505 - 63);
    }
}
