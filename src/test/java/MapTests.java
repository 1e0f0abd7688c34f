/** Promises 1 to 5: a new object, the tape, the map and its faults. */
public final class MapTests {
    private static final Bench BENCH = new Bench();
    private static final String SMALL = "@01{Aw0:0;}";

    public static void main(String[] args) {
        newObject();
        typing();
        compiling();
        compileKeepsAllAfterAFault();
        compileStartsAgain();
        characters();
        mostOfAll();
        fieldFaults();
        bankFaults();
        ruleFaults();
        orderOfFaults();
        faultAnswers();
        fieldAnswers();
        BENCH.end();
    }

    private static void newObject() {
        BENCH.part("promise 1");
        ChipMap x = new ChipMap();
        BENCH.due("NONE", ChipMap.NONE, -1);
        for (int what = 0; what < 5; what++) {
            BENCH.due("state", x.state(what), 0);
        }
        BENCH.due("fault(0)", x.fault(0), 0);
        BENCH.due("fault(1)", x.fault(1), 0);
        BENCH.due("found(0)", x.found(0), 0);
        BENCH.due("found(1)", x.found(1), 0);
        BENCH.due("field", x.field(0, 0), -1);
        BENCH.due("reset", x.reset(), false);
        BENCH.due("busWrite", x.busWrite(0, 0), -1);
        BENCH.due("busRead", x.busRead(0), -1);
        BENCH.due("poke", x.poke(0, 0), false);
        BENCH.due("put", x.put(0, 0), -1);
        BENCH.due("fetch", Bench.fetch(x, 0), Bench.INDEX_OUT);
        BENCH.due("join", x.join(0, 0), -1);
        BENCH.due("flush", x.flush(), 0);
        BENCH.due("drop", x.drop(), 0);
        BENCH.due("trace", x.trace(0, 0), -1);
        BENCH.due("step", x.step(3, 0, 0), -1);
        BENCH.due("erase", x.erase(), 0);
        BENCH.due("check", x.check(), -1);
        BENCH.due("run", x.run(0), -1);
    }

    private static void typing() {
        BENCH.part("promise 2");
        ChipMap x = new ChipMap();
        BENCH.due("n 0", x.type(64, 0), false);
        BENCH.due("n 9", x.type(0x4040404040404040L, 9), false);
        BENCH.due("n -1", x.type(64, -1), false);
        BENCH.due("n most negative", x.type(64, Integer.MIN_VALUE), false);
        BENCH.due("n most positive", x.type(64, Integer.MAX_VALUE), false);
        BENCH.due("byte 32", x.type(32, 1), false);
        BENCH.due("byte 127", x.type(127, 1), false);
        BENCH.due("byte 0 on top", x.type(64, 2), false);
        BENCH.due("byte 200", x.type(0x40C8, 2), false);
        BENCH.due("bad byte last", x.type(0x4020, 2), false);
        BENCH.due("nothing was typed", Bench.compile(x), Bench.ILLEGAL_ARGUMENT);
        BENCH.due("at 0", x.fault(1), 0);
        BENCH.due("bytes above n don't matter", x.type(0x2040L, 1), true);
        BENCH.due("highest first", x.type(0x3031L, 2), true);
        BENCH.due("the rest", Bench.type(x, "{Aw0:0;}"), true);
        BENCH.due("compile", Bench.compile(x), 1);
        BENCH.due("offset 1", x.busRead(1), 0);
        BENCH.due("byte 33", x.type(33, 1), true);
        BENCH.due("byte 126", x.type(126, 1), true);
        typingToTheEnd();
    }

    private static void typingToTheEnd() {
        ChipMap x = new ChipMap();
        for (int i = 0; i < 59; i++) {
            BENCH.due("eight more", x.type(0x4040404040404040L, 8), true);
        }
        BENCH.due("to 479", x.type(0x40404040404040L, 7), true);
        BENCH.due("beyond 480", x.type(0x4040, 2), false);
        BENCH.due("to 480", x.type(0x40, 1), true);
        BENCH.due("one more", x.type(0x40, 1), false);
        BENCH.due("compile", Bench.compile(x), Bench.ILLEGAL_ARGUMENT);
        BENCH.due("place", x.fault(1), 1);
        BENCH.due("empty again", x.type(0x40, 1), true);
    }

    private static void compiling() {
        BENCH.part("promise 3");
        ChipMap x = new ChipMap();
        BENCH.due("one register", Bench.compile(x, SMALL), 1);
        BENCH.due("tape is empty then", Bench.compile(x), Bench.ILLEGAL_ARGUMENT);
        BENCH.due("place", x.fault(1), 0);
        BENCH.due("a fault", Bench.compile(x, "@01{"), Bench.ILLEGAL_ARGUMENT);
        BENCH.due("tape is empty behind a fault", Bench.compile(x, SMALL), 1);
        BENCH.due("a bank of a later field", Bench.compile(x, "@01?A=f{Bw0:0;}@02{Aw3:0;}"), 2);
        BENCH.due("leading zeros", Bench.compile(x, "@01{Aw09:00=0001;}"), 1);
        BENCH.due("ten bits", x.field(0, 2), 10);
        BENCH.due("1 at RESET", x.field(0, 3), 1);
        BENCH.due("sixteen bits", Bench.compile(x, "@ff{Zo15:0=ffff;}"), 1);
        BENCH.due("ffff at RESET", x.field(25, 3), 65535);
        BENCH.due("no A any more", x.field(0, 0), -1);
        BENCH.due("THERE at ff", x.busRead(255), 0);
    }

    private static void compileKeepsAllAfterAFault() {
        ChipMap x = BENCH.chip("@01{Aw3:0;Bc7:4;}A<A;");
        x.busWrite(1, 5);
        x.poke(1, 6);
        x.busRead(1);
        x.join(0, 2);
        x.step(3, 0, 0);
        x.check();
        BENCH.due("a fault", Bench.compile(x, "@01{Aw0:0;}A<B;"), Bench.ILLEGAL_ARGUMENT);
        BENCH.due("field(0, 2)", x.field(0, 2), 4);
        BENCH.due("field(0, 3)", x.field(0, 3), 5);
        BENCH.due("field(1, 4)", x.field(1, 4), 6);
        BENCH.due("state(0)", x.state(0), 2);
        BENCH.due("state(1)", x.state(1), 1);
        BENCH.due("state(2)", x.state(2), 1);
        BENCH.due("state(3)", x.state(3), 1);
        BENCH.due("state(4)", x.state(4), 1);
        BENCH.due("found(0)", x.found(0), 2);
        BENCH.due("a fault of kind 1", Bench.compile(x, "@02{Cw"), Bench.ILLEGAL_ARGUMENT);
        BENCH.due("no C", x.field(2, 0), -1);
        BENCH.due("flush", x.flush(), 1);
    }

    private static void compileStartsAgain() {
        ChipMap x = BENCH.chip("@01{Aw3:0;Bc7:4;}A<A;");
        x.busWrite(1, 5);
        x.poke(1, 6);
        x.busRead(1);
        x.join(0, 2);
        x.step(3, 0, 0);
        BENCH.due("compile", Bench.compile(x, "@01{Aw3:0=9;Bc7:4=2;}"), 1);
        BENCH.due("RESET", x.field(0, 3), 9);
        BENCH.due("RESET of a c", x.field(1, 3), 2);
        BENCH.due("KEPT", x.field(1, 4), 0);
        for (int what = 0; what < 5; what++) {
            BENCH.due("state(" + what + ")", x.state(what), 0);
        }
        BENCH.due("trace", x.trace(0, 0), -1);
        BENCH.due("put", x.put(0, 9), 0);
        compileForgetsTheOldMap();
    }

    private static void compileForgetsTheOldMap() {
        ChipMap x = BENCH.chip("@01{Aw3:0=f;Bo7:4=f;Cc11:8=f;Ds15:12=f;}@02{Et3:0=f;Fp7:4=f;}A<A;A<B;");
        BENCH.due("compile", Bench.compile(x, "@01{Cp3:0;Dr7:4;Ew11:8;}@02{Aw3:0;Bw7:4;}"), 2);
        BENCH.due("no F", x.field(5, 0), -1);
        BENCH.due("RESET", x.busRead(1), 0);
        BENCH.due("RESET", x.busRead(2), 0);
        BENCH.due("no rules", x.busWrite(1, 0xFFFF), 0);
        BENCH.due("no rules", x.busWrite(2, 0xFFFF), 0);
        BENCH.due("p and w", x.busRead(1), 0xF0F);
        BENCH.due("two w", x.busRead(2), 0xFF);
        BENCH.due("the p is still there", x.busRead(1), 0xF0F);
        BENCH.due("the p is over", x.busRead(1), 0xF00);
        BENCH.due("its word has the w alone", x.put(2, 1), 1);
        BENCH.traceDue(x, 0, 1, 1, 0xF01);
    }

    private static void characters() {
        BENCH.part("promise 3, fault 1");
        String[] cut = {"", "@", "@0", "@01", "@01?", "@01?A", "@01?A=", "@01?A=1", "@01?A=1{", "@01{A",
            "@01{Aw", "@01{Aw1", "@01{Aw12", "@01{Aw1:", "@01{Aw1:0", "@01{Aw1:0=", "@01{Aw1:0=1",
            "@01{Aw1:0;", "@01{Aw1:0;}A", "@01{Aw1:0;}A<", "@01{Aw1:0;}A<A", "@01{Aw1:0;}A&A",
            "@01{Aw1:0;}A&A=", "@01{Aw1:0;}A&A=1", "@01{Aw1:0;}A!A", "@01{Aw1:0;}@"};
        for (String tape : cut) {
            BENCH.faultDue(tape, 1, tape.length());
        }
        BENCH.faultDue("A<B;", 1, 0);
        BENCH.faultDue("@0g{Aw0:0;}", 1, 2);
        BENCH.faultDue("@0A{Aw0:0;}", 1, 2);
        BENCH.faultDue("@012{Aw0:0;}", 1, 3);
        BENCH.faultDue("@01?a=1{Aw0:0;}", 1, 4);
        BENCH.faultDue("@01?A=g{Aw0:0;}", 1, 6);
        BENCH.faultDue("@01?A=11{Aw0:0;}", 1, 7);
        BENCH.faultDue("@01{}", 1, 4);
        BENCH.faultDue("@01{aw0:0;}", 1, 4);
        BENCH.faultDue("@01{Ax0:0;}", 1, 5);
        BENCH.faultDue("@01{Awa:0;}", 1, 6);
        BENCH.faultDue("@01{Aw012:0;}", 1, 8);
        BENCH.faultDue("@01{Aw1:000;}", 1, 10);
        BENCH.faultDue("@01{Aw1:0=00000;}", 1, 14);
        BENCH.faultDue("@01{Aw1:0=F;}", 1, 10);
        BENCH.faultDue("@1{Aw0:0;}", 1, 2);
        BENCH.faultDue("@{Aw0:0;}", 1, 1);
        BENCH.faultDue("@01?{Aw0:0;}", 1, 4);
        BENCH.faultDue("@01?A1{Aw0:0;}", 1, 5);
        BENCH.faultDue("@01?A{Aw0:0;}", 1, 5);
        BENCH.faultDue("@01?A={Aw0:0;}", 1, 6);
        BENCH.faultDue("@01{w0:0;}", 1, 4);
        BENCH.faultDue("@01{A0:0;}", 1, 5);
        BENCH.faultDue("@01{A}", 1, 5);
        BENCH.faultDue("@01{Aw}", 1, 6);
        BENCH.faultDue("@01{Aw:0;}", 1, 6);
        BENCH.faultDue("@01{Aw1;}", 1, 7);
        BENCH.faultDue("@01{Aw1:;}", 1, 8);
        BENCH.faultDue("@01{Aw1:}", 1, 8);
        BENCH.faultDue("@01{Aw1:0=;}", 1, 10);
        BENCH.faultDue("@01{Aw1:0;}<A;", 1, 11);
        BENCH.faultDue("@01{Aw1:0;}A;", 1, 12);
        BENCH.faultDue("@01{Aw1:0;}AA;", 1, 12);
        BENCH.faultDue("@01{Aw1:0;}A<;", 1, 13);
        BENCH.faultDue("@01{Aw1:0;}A&A=;", 1, 15);
        BENCH.faultDue("@01{Aw1:0;};", 1, 11);
        BENCH.faultDue("@01{Aw1:0;}A>A;", 1, 12);
        BENCH.faultDue("@01{Aw1:0;}A<A=1;", 1, 14);
        BENCH.faultDue("@01{Aw1:0;}A&A;", 1, 14);
        BENCH.faultDue("@01{Aw1:0;}A&A=00001;", 1, 19);
        BENCH.faultDue("@01{Aw1:0;}A<A;@02{Bw0:0;}", 1, 15);
    }

    private static void mostOfAll() {
        StringBuilder registers = new StringBuilder();
        for (int r = 0; r < 16; r++) {
            registers.append("@0").append(Integer.toHexString(r)).append('{').append((char) ('A' + r)).append("w0:0;}");
        }
        String sixteen = registers.toString();
        BENCH.due("16 registers", Bench.compile(new ChipMap(), sixteen), 16);
        BENCH.faultDue(sixteen + "@10{Zw0:0;}", 1, sixteen.length());
        String eight = "@01{Aw0:0;Bw1:1;Cw2:2;Dw3:3;Ew4:4;Fw5:5;Gw6:6;Hw7:7;";
        BENCH.due("8 fields", Bench.compile(new ChipMap(), eight + "}"), 1);
        BENCH.faultDue(eight + "Iw8:8;}", 1, eight.length());
        String twelve = SMALL + "A!A;".repeat(12);
        ChipMap x = new ChipMap();
        BENCH.due("12 rules", Bench.compile(x, twelve), 1);
        BENCH.due("12 rules", x.state(4), 12);
        BENCH.faultDue(twelve + "A!A;", 1, twelve.length());
    }

    private static void fieldFaults() {
        BENCH.part("promise 3, fault 2");
        BENCH.faultDue("@01{Aw0:0;Aw1:1;}", 2, 10);
        BENCH.faultDue("@01{Aw0:0;}@02{Bw0:0;Aw1:1;}", 2, 21);
        BENCH.faultDue("@01{Aw16:0;}", 2, 4);
        BENCH.faultDue("@01{Aw99:98;}", 2, 4);
        BENCH.faultDue("@01{Aw2:3;}", 2, 4);
        BENCH.faultDue("@01{Aw0:0=2;}", 2, 4);
        BENCH.faultDue("@01{Aw14:0=8000;}", 2, 4);
        BENCH.faultDue("@01{Aw3:0;Bw7:3;}", 2, 10);
        BENCH.faultDue("@01{Aw3:0;Bw9:8;Cw4:2;}", 2, 16);
        BENCH.faultDue("@01{Aw0:0;}@02{Bw3:0;Cw0:0;}", 2, 21);
        BENCH.due("the same bits elsewhere", Bench.compile(new ChipMap(), "@01{Aw3:0;}@02{Bw3:0;}"), 2);
        BENCH.due("a value that just fits", Bench.compile(new ChipMap(), "@01{Aw2:1=3;}"), 1);
    }

    private static void bankFaults() {
        BENCH.part("promise 3, fault 3");
        BENCH.faultDue("@01{Aw0:0;}@02?Z=0{Bw0:0;}", 3, 15);
        for (char access : "roctsp".toCharArray()) {
            BENCH.faultDue("@01{A" + access + "0:0;}@02?A=0{Bw0:0;}", 3, 15);
        }
        BENCH.faultDue("@01?A=0{Aw0:0;}", 3, 4);
        BENCH.faultDue("@01{Aw0:0;}@02?A=0{Bw0:0;}@03?B=0{Cw0:0;}", 3, 30);
        BENCH.faultDue("@01{Aw0:0;}@02?A=2{Bw0:0;}", 3, 15);
        BENCH.faultDue("@01{Aw0:0;}@01{Bw0:0;}", 3, 11);
        BENCH.faultDue("@01{Aw0:0;}@01?A=1{Bw0:0;}", 3, 11);
        BENCH.faultDue("@02?A=1{Bw0:0;}@01{Aw0:0;}@02{Cw0:0;}", 3, 26);
        BENCH.faultDue("@01{Aw0:0;Bw1:1;}@02?A=1{Cw0:0;}@02?B=0{Dw0:0;}", 3, 32);
        BENCH.faultDue("@01{Aw1:0;}@02?A=1{Bw0:0;}@02?A=2{Cw0:0;}@02?A=1{Dw0:0;}", 3, 41);
        BENCH.due("banks apart", Bench.compile(new ChipMap(),
            "@01{Aw1:0;}@02?A=1{Bw0:0;}@02?A=2{Cw0:0;}@02?A=3{Dw0:0;}"), 4);
    }

    private static void ruleFaults() {
        BENCH.part("promise 3, fault 4");
        String all = "@01{Aw0:0;Br1:1;Co2:2;Dc3:3;Et4:4;Fs5:5;Gp6:6;}";
        int at = all.length();
        for (char sign : "<!".toCharArray()) {
            for (char name : "ACEFG".toCharArray()) {
                BENCH.due("good", Bench.compile(new ChipMap(), all + name + sign + "A;"), 1);
                BENCH.due("good", Bench.compile(new ChipMap(), all + "A" + sign + name + ";"), 1);
            }
            for (char name : "BDZ".toCharArray()) {
                BENCH.faultDue(all + name + sign + "A;", 4, at);
                BENCH.faultDue(all + "A" + sign + name + ";", 4, at + 2);
            }
        }
        for (char name : "ACEFG".toCharArray()) {
            BENCH.due("good", Bench.compile(new ChipMap(), all + name + "&A=1;"), 1);
        }
        for (char name : "BDZ".toCharArray()) {
            BENCH.faultDue(all + name + "&A=1;", 4, at);
        }
        for (char name : "BDEFGZ".toCharArray()) {
            BENCH.faultDue(all + "A&" + name + "=1;", 4, at + 2);
        }
        BENCH.due("good", Bench.compile(new ChipMap(), all + "A&C=1;"), 1);
        BENCH.faultDue(all + "A&C=2;", 4, at + 2);
        BENCH.faultDue(all + "A<C;A&A=0002;", 4, at + 6);
        BENCH.faultDue(all + "Z&Z=2;", 4, at);
    }

    private static void orderOfFaults() {
        BENCH.part("promise 3, order");
        BENCH.faultDue("@01{Aw0:0;Aw0:0;}@01?Z=1{Bw0:0;}Z<Z;$", 1, 36);
        BENCH.faultDue("@01?Z=1{Bw0:0;}@01{Aw0:0;Aw0:0;}Z<Z;", 2, 25);
        BENCH.faultDue("@01{Aw0:0;}@01{Bw0:0;}Z<Z;", 3, 11);
        BENCH.faultDue("@01{Aw0:0;}@01{Bw0:0;}@02?Z=0{Cw0:0;}", 3, 26);
        BENCH.faultDue("@01{Aw0:0;}Y<A;Z<A;", 4, 11);
        BENCH.faultDue("@01{Aw0:1;}@02{Bw0:1;}", 2, 4);
    }

    private static void faultAnswers() {
        BENCH.part("promise 4");
        ChipMap x = new ChipMap();
        Bench.compile(x, "@01{Aw0:1;}");
        BENCH.due("fault(0)", x.fault(0), 2);
        BENCH.due("fault(1)", x.fault(1), 4);
        BENCH.due("fault(2)", x.fault(2), -1);
        BENCH.due("fault(-1)", x.fault(-1), -1);
        Bench.compile(x, SMALL);
        BENCH.due("fault(0)", x.fault(0), 0);
        BENCH.due("fault(1)", x.fault(1), 0);
    }

    private static void fieldAnswers() {
        BENCH.part("promise 5");
        ChipMap x = BENCH.chip("@01{Aw0:0;}@02{Zc15:5=7ff;Br4:0=1f;}");
        int[][] due = {{0, 0, 1, 0, 0}, {1, 0, 5, 31, 0}, {1, 5, 11, 0x7ff, 0}};
        int[] names = {0, 1, 25};
        for (int i = 0; i < names.length; i++) {
            for (int what = 0; what < 5; what++) {
                BENCH.due("field(" + names[i] + ", " + what + ")", x.field(names[i], what), due[i][what]);
            }
            BENCH.due("what 5", x.field(names[i], 5), -1);
            BENCH.due("what -1", x.field(names[i], -1), -1);
        }
        BENCH.due("no C", x.field(2, 0), -1);
        BENCH.due("field -1", x.field(-1, 0), -1);
        BENCH.due("field 26", x.field(26, 0), -1);
        BENCH.due("field most negative", x.field(Integer.MIN_VALUE, 0), -1);
        x.busRead(2);
        BENCH.due("value", x.field(25, 3), 0);
        BENCH.due("KEPT", x.field(25, 4), 0x7ff);
        BENCH.due("KEPT of an r", x.field(1, 4), 0);
    }
}
