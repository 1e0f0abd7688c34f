/** The boundary cases of Terms that a tape and its map have, sentence by sentence as they stand there. */
public final class TapeEdgeTests {
    private static final Bench BENCH = new Bench();
    private static final String HEXADECIMAL = "0123456789abcdef";
    private static final String DECIMAL = "0123456789";
    private static final String NAME = "ABCDEFGHIJKLMNOPQRSTUVWXYZ";
    private static final String ACCESS = "wroctsp";

    public static void main(String[] args) {
        lengthOfTheTape();
        howManyRegisters();
        howManyFields();
        howManyRules();
        everyCharacterEverywhere();
        digitsOfNumbers();
        oneIsMissing();
        namesOnce();
        highAndLow();
        valueAtReset();
        sharedBits();
        fieldOfABank();
        sameOffset();
        namesInRules();
        valueInARule();
        firstKindThenFirstPlace();
        BENCH.end();
    }

    /** 26 fields in 13 registers, 10 rules: 480 characters. */
    private static String longest() {
        StringBuilder tape = new StringBuilder();
        for (int r = 0; r < 13; r++) {
            tape.append('@').append(HEXADECIMAL.charAt(r)).append("0{").append(NAME.charAt(2 * r)).append("w00:00=0001;")
                .append(NAME.charAt(2 * r + 1)).append("w01:01=0001;}");
        }
        return tape + "A&B=0001;".repeat(7) + "A&B=1;A<B;A!B;";
    }

    private static void lengthOfTheTape() {
        BENCH.part("THE TAPE has at most 480 characters");
        String tape = longest();
        BENCH.due("its length", tape.length(), 480);
        ChipMap x = BENCH.goodDue(tape, 13);
        BENCH.due("all rules are read", x.state(4), 10);
        BENCH.due("all fields are read", x.field(25, 0), 12);
        x = new ChipMap();
        BENCH.due("480", Bench.type(x, tape), true);
        BENCH.due("a 481st", x.type(';', 1), false);
        BENCH.due("the 480 are still good", Bench.compile(x), 13);
        BENCH.faultDue(tape.substring(0, 479), 1, 479);
        BENCH.faultDue(tape.substring(0, 479) + ":", 1, 479);
        BENCH.faultDue(tape.substring(0, 476) + "A!BB", 1, 479);
        BENCH.faultDue(tape.substring(0, 472) + "A&B=0001", 1, 480);
    }

    private static String registers(int count) {
        StringBuilder tape = new StringBuilder();
        for (int r = 0; r < count; r++) {
            tape.append('@').append(r / 10).append(r % 10).append('{').append(NAME.charAt(r)).append("w0:0;}");
        }
        return tape.toString();
    }

    private static void howManyRegisters() {
        BENCH.part("1 to 16 REGISTERS");
        BENCH.faultDue("", 1, 0);
        BENCH.faultDue("A<A;", 1, 0);
        BENCH.goodDue(registers(1), 1);
        BENCH.goodDue(registers(15), 15);
        ChipMap x = BENCH.goodDue(registers(16), 16);
        BENCH.due("the last one is number 15", x.field(15, 0), 15);
        BENCH.due("the last one is THERE", x.busRead(0x15), 0);
        BENCH.faultDue(registers(17), 1, registers(16).length());
        BENCH.faultDue(registers(16) + "@", 1, registers(16).length());
        BENCH.faultDue(registers(16) + "A<A;@", 1, registers(16).length() + 4);
        BENCH.goodDue(registers(16) + "A<A;", 16);
    }

    private static String fields(int count) {
        StringBuilder tape = new StringBuilder("@01{");
        for (int f = 0; f < count; f++) {
            tape.append(NAME.charAt(f)).append('w').append(f).append(':').append(f).append(';');
        }
        return tape.toString();
    }

    private static void howManyFields() {
        BENCH.part("1 to 8 FIELDS");
        BENCH.faultDue("@01{}", 1, 4);
        BENCH.goodDue(fields(1) + "}", 1);
        BENCH.goodDue(fields(7) + "}", 1);
        ChipMap x = BENCH.goodDue(fields(8) + "}", 1);
        BENCH.due("the eighth", x.field(7, 1), 7);
        BENCH.faultDue(fields(9) + "}", 1, fields(8).length());
        BENCH.faultDue(fields(8), 1, fields(8).length());
        BENCH.faultDue(fields(8) + "}@02{", 1, fields(8).length() + 5);
        BENCH.goodDue(fields(8) + "}@02{Zw0:0;}", 2);
    }

    private static void howManyRules() {
        BENCH.part("at most 12 RULES");
        String map = "@01{Aw1:0;Bw3:2;}";
        for (String rule : new String[] {"A<B;", "A&B=1;", "A&B=0003;", "A!B;"}) {
            for (int count : new int[] {0, 1, 11, 12}) {
                ChipMap x = BENCH.goodDue(map + rule.repeat(count), 1);
                BENCH.due("state(4)", x.state(4), count);
            }
            BENCH.faultDue(map + rule.repeat(13), 1, (map + rule.repeat(12)).length());
        }
        ChipMap x = BENCH.goodDue(map + "A!A;".repeat(11) + "A<B;", 1);
        BENCH.due("the twelfth counts", x.busWrite(1, 4), 12);
    }

    /** Each character of a tape is replaced by each that can be typed. */
    private static void everyCharacterEverywhere() {
        BENCH.part("the first character that can't stand there");
        String tape = "@01?A=1{Bw1:0=1;}@02{Aw9:0;}A<B;A&A=1;A!B;";
        String[] can = {"@", HEXADECIMAL, HEXADECIMAL, "?{", NAME, "=", HEXADECIMAL, "{", NAME, ACCESS, DECIMAL,
            ":" + DECIMAL, DECIMAL, "=;" + DECIMAL, HEXADECIMAL, ";" + HEXADECIMAL, "}" + NAME, "@" + NAME,
            HEXADECIMAL, HEXADECIMAL, "?{", NAME, ACCESS, DECIMAL, ":" + DECIMAL, DECIMAL, ";=" + DECIMAL,
            "}" + NAME, "@" + NAME, "<&!", NAME, ";", NAME, "<&!", NAME, "=", HEXADECIMAL, ";" + HEXADECIMAL,
            NAME, "<&!", NAME, ";"};
        BENCH.due("a row for each", can.length, tape.length());
        for (int at = 0; at < tape.length(); at++) {
            for (char c = 33; c <= 126; c++) {
                ChipMap x = new ChipMap();
                String text = tape.substring(0, at) + c + tape.substring(at + 1);
                Bench.compile(x, text);
                boolean refused = x.fault(0) == 1 && x.fault(1) == at;
                BENCH.due(text + ": " + c + " is refused at " + at, refused, can[at].indexOf(c) < 0);
            }
        }
    }

    private static void digitsOfNumbers() {
        BENCH.part("how many digits");
        BENCH.faultDue("@{Aw0:0;}", 1, 1);
        BENCH.faultDue("@f{Aw0:0;}", 1, 2);
        BENCH.goodDue("@ff{Aw0:0;}", 1);
        BENCH.faultDue("@fff{Aw0:0;}", 1, 3);
        BENCH.faultDue("@01?A={Aw0:0;}", 1, 6);
        BENCH.goodDue("@01?A=f{Bw0:0;}@02{Aw3:0;}", 2);
        BENCH.faultDue("@01?A=ff{Bw0:0;}@02{Aw3:0;}", 1, 7);
        BENCH.faultDue("@01{Aw:0;}", 1, 6);
        BENCH.goodDue("@01{Aw9:0;}", 1);
        BENCH.goodDue("@01{Aw09:0;}", 1);
        BENCH.faultDue("@01{Aw009:0;}", 1, 8);
        BENCH.faultDue("@01{Aw9:;}", 1, 8);
        BENCH.goodDue("@01{Aw9:00;}", 1);
        BENCH.faultDue("@01{Aw9:000;}", 1, 10);
        BENCH.faultDue("@01{Aw9:0=;}", 1, 10);
        for (String digits : new String[] {"1", "01", "001", "0001"}) {
            ChipMap x = BENCH.goodDue("@01{Aw9:0=" + digits + ";}", 1);
            BENCH.due("its value", x.field(0, 3), 1);
            x = BENCH.goodDue("@01{Aw9:0;}A&A=" + digits + ";", 1);
            BENCH.due("the rule is broken while A is 0", x.busWrite(1, 1), 1);
            BENCH.due("not while it is 1", x.busWrite(1, 2), 0);
        }
        BENCH.faultDue("@01{Aw9:0=00001;}", 1, 14);
        BENCH.faultDue("@01{Aw9:0;}A&A=;", 1, 15);
        BENCH.faultDue("@01{Aw9:0;}A&A=00001;", 1, 19);
    }

    private static void oneIsMissing() {
        BENCH.part("the tape's length, if one is missing");
        String tape = "@01?A=1{Bw1:0=1;}@02{Aw9:0;}A<B;A&A=1;A!B;";
        for (int length = 0; length <= tape.length(); length++) {
            String cut = tape.substring(0, length);
            if (length == 28 || length == 32 || length == 38 || length == 42) {
                BENCH.goodDue(cut, 2);
            } else if (length == 17) {
                // The one register stands there whole; A, its BANK's field, is none of the map then.
                BENCH.faultDue(cut, 3, 4);
            } else {
                BENCH.faultDue(cut, 1, length);
            }
        }
    }

    private static void namesOnce() {
        BENCH.part("a FIELD whose name an earlier one has");
        BENCH.goodDue("@01{Aw0:0;Bw1:1;}", 1);
        BENCH.faultDue("@01{Aw0:0;Aw1:1;}", 2, 10);
        BENCH.faultDue("@01{Aw0:0;}@02{Aw1:1;}", 2, 15);
        BENCH.faultDue("@01{Zr0:0;Yw1:1;}@02{Zc0:0;Yw1:1;}", 2, 21);
        StringBuilder all = new StringBuilder();
        for (int f = 0; f < 26; f++) {
            all.append(f % 8 == 0 ? (f == 0 ? "@" : "}@") + "0" + f / 8 + "{" : "");
            all.append(NAME.charAt(f)).append('w').append(f % 8).append(':').append(f % 8).append(';');
        }
        ChipMap x = BENCH.goodDue(all + "}", 4);
        BENCH.due("Z", x.field(25, 1), 1);
        BENCH.faultDue(all + "Mw2:2;}", 2, all.length());
    }

    private static void highAndLow() {
        BENCH.part("15 >= HIGH >= LOW");
        int[][] good = {{0, 0}, {1, 0}, {15, 0}, {15, 14}, {15, 15}, {14, 14}, {10, 9}};
        for (int[] bits : good) {
            ChipMap x = BENCH.goodDue("@01{Aw" + bits[0] + ":" + bits[1] + ";}", 1);
            BENCH.due("LOW", x.field(0, 1), bits[1]);
            BENCH.due("bits", x.field(0, 2), bits[0] - bits[1] + 1);
        }
        int[][] bad = {{16, 0}, {16, 15}, {16, 16}, {99, 0}, {99, 99}, {31, 16}, {32, 1}, {0, 1}, {14, 15}, {15, 16},
            {0, 15}, {0, 99}, {9, 10}};
        for (int[] bits : bad) {
            BENCH.faultDue("@01{Aw" + bits[0] + ":" + bits[1] + ";}", 2, 4);
        }
    }

    private static void valueAtReset() {
        BENCH.part("whose RESET does not fit");
        for (char access : ACCESS.toCharArray()) {
            for (int width = 1; width <= 15; width++) {
                String field = "@01{A" + access + (width - 1) + ":0=";
                int most = (1 << width) - 1;
                ChipMap x = BENCH.goodDue(field + Integer.toHexString(most) + ";}", 1);
                BENCH.due("the most", x.field(0, 3), most);
                BENCH.faultDue(field + Integer.toHexString(most + 1) + ";}", 2, 4);
            }
            ChipMap x = BENCH.goodDue("@01{A" + access + "15:0=ffff;}", 1);
            BENCH.due("16 bits", x.field(0, 3), 65535);
            x = BENCH.goodDue("@01{A" + access + "15:15=1;}", 1);
            BENCH.due("the highest bit alone", x.field(0, 3), 1);
            BENCH.faultDue("@01{A" + access + "15:15=2;}", 2, 4);
            x = BENCH.goodDue("@01{A" + access + "15:0;}", 1);
            BENCH.due("0 without one", x.field(0, 3), 0);
        }
    }

    private static void sharedBits() {
        BENCH.part("that has a bit with an earlier one of its REGISTER");
        BENCH.goodDue("@01{Aw7:4;Bw3:0;Cw8:8;}", 1);
        BENCH.faultDue("@01{Aw7:4;Bw4:0;}", 2, 10);
        BENCH.faultDue("@01{Aw7:4;Bw8:7;}", 2, 10);
        BENCH.faultDue("@01{Aw7:4;Bw6:5;}", 2, 10);
        BENCH.faultDue("@01{Aw7:4;Bw15:0;}", 2, 10);
        BENCH.faultDue("@01{Aw7:4;Bw3:0;Cw7:7;}", 2, 16);
        BENCH.faultDue("@01{Ar15:15;Bw15:15;}", 2, 12);
        BENCH.goodDue("@01{Aw15:0;}@02{Bw15:0;}", 2);
        BENCH.goodDue("@01{Aw15:15;Bw14:0;}", 1);
        BENCH.faultDue("@01{Aw7:4;}@02{Bw7:4;Cw4:4;}", 2, 21);
    }

    private static void fieldOfABank() {
        BENCH.part("the FIELD of a BANK");
        String one = "@01{Aw0:0;}@02?";
        BENCH.goodDue(one + "A=0{Bw0:0;}", 2);
        BENCH.faultDue(one + "C=0{Bw0:0;}", 3, 15);
        for (char access : ACCESS.toCharArray()) {
            String tape = "@01{A" + access + "0:0;}@02?A=0{Bw0:0;}";
            if (access == 'w') {
                BENCH.goodDue(tape, 2);
            } else {
                BENCH.faultDue(tape, 3, 15);
            }
        }
        BENCH.faultDue(one + "B=0{Bw0:0;}", 3, 15);
        BENCH.faultDue(one + "A=0{Bw0:0;}@03?B=0{Cw0:0;}", 3, 30);
        BENCH.faultDue("@02?B=0{Aw0:0;}@03?C=0{Bw0:0;}@04{Cw0:0;}", 3, 4);
        BENCH.goodDue("@02?B=0{Aw0:0;}@03{Bw0:0;}", 2);
        for (int width = 1; width <= 3; width++) {
            String tape = "@01{Aw" + (width + 1) + ":2;}@02?A=";
            BENCH.goodDue(tape + ((1 << width) - 1) + "{Bw0:0;}", 2);
            BENCH.faultDue(tape + (1 << width) + "{Bw0:0;}", 3, 15);
        }
        BENCH.goodDue("@01{Aw3:0;}@02?A=f{Bw0:0;}", 2);
        BENCH.goodDue("@01{Aw15:0;}@02?A=f{Bw0:0;}", 2);
    }

    private static void sameOffset() {
        BENCH.part("a REGISTER with the OFFSET of an earlier one");
        String map = "@01{Aw3:0;Bw7:4;}";
        BENCH.goodDue(map + "@02{Cw0:0;}", 2);
        BENCH.faultDue(map + "@01{Cw0:0;}", 3, 17);
        BENCH.faultDue(map + "@01?A=1{Cw0:0;}", 3, 17);
        BENCH.faultDue(map + "@02{Cw0:0;}@02?A=1{Dw0:0;}", 3, 28);
        BENCH.faultDue(map + "@02?A=1{Cw0:0;}@02{Dw0:0;}", 3, 32);
        BENCH.faultDue(map + "@02?A=1{Cw0:0;}@02?A=1{Dw0:0;}", 3, 32);
        BENCH.faultDue(map + "@02?A=1{Cw0:0;}@02?B=2{Dw0:0;}", 3, 32);
        BENCH.goodDue(map + "@02?A=1{Cw0:0;}@02?A=2{Dw0:0;}", 3);
        BENCH.goodDue(map + "@02?A=1{Cw0:0;}@03?A=1{Dw0:0;}", 3);
        BENCH.goodDue(map + "@02?A=0{Cw0:0;}@02?A=f{Dw0:0;}@02?A=1{Ew0:0;}", 4);
        BENCH.faultDue(map + "@02?A=0{Cw0:0;}@02?A=f{Dw0:0;}@02?A=0{Ew0:0;}", 3, 47);
        BENCH.faultDue(map + "@02?A=0{Cw0:0;}@02?A=f{Dw0:0;}@02?A=f{Ew0:0;}", 3, 47);
        BENCH.faultDue("@ff{Aw0:0;}@00{Bw0:0;}@ff{Cw0:0;}@00{Dw0:0;}", 3, 22);
        BENCH.goodDue("@ff{Aw0:0;}@00{Bw0:0;}@fe{Cw0:0;}@f0{Dw0:0;}@0f{Ew0:0;}", 5);
    }

    private static void namesInRules() {
        BENCH.part("in a RULE a name");
        String all = "@01{Aw0:0;Br1:1;Co2:2;Dc3:3;Et4:4;Fs5:5;Gp6:6;}";
        int at = all.length();
        String accesses = "wroctsp";
        for (int f = 0; f < 7; f++) {
            char name = NAME.charAt(f);
            boolean written = accesses.charAt(f) != 'r' && accesses.charAt(f) != 'c';
            boolean known = f == 0 || f == 2;
            ruleDue(all, name + "<A;", written ? -1 : at);
            ruleDue(all, name + "&A=0;", written ? -1 : at);
            ruleDue(all, name + "!A;", written ? -1 : at);
            ruleDue(all, "A<" + name + ";", written ? -1 : at + 2);
            ruleDue(all, "A&" + name + "=0;", known ? -1 : at + 2);
            ruleDue(all, "A!" + name + ";", written ? -1 : at + 2);
        }
        for (String sign : new String[] {"<A;", "&A=0;", "!A;"}) {
            ruleDue(all, "H" + sign, at);
            ruleDue(all, "A" + sign.replace('A', 'H'), at + 2);
            ruleDue(all, "H" + sign.replace('A', 'I'), at);
            ruleDue(all, "A" + sign, -1);
        }
    }

    private static void ruleDue(String map, String rule, int place) {
        if (place < 0) {
            BENCH.goodDue(map + rule, 1);
        } else {
            BENCH.faultDue(map + rule, 4, place);
        }
    }

    private static void valueInARule() {
        BENCH.part("a value that does not fit: the name of B");
        for (int width = 1; width <= 15; width++) {
            for (char access : "wo".toCharArray()) {
                String map = "@01{A" + access + (width - 1) + ":0;}@02{Bt15:0;}";
                int most = (1 << width) - 1;
                BENCH.goodDue(map + "B&A=" + Integer.toHexString(most) + ";", 2);
                BENCH.faultDue(map + "B&A=" + Integer.toHexString(most + 1) + ";", 4, map.length() + 2);
            }
        }
        BENCH.goodDue("@01{Aw15:0;}A&A=ffff;", 1);
        BENCH.goodDue("@01{Aw15:15;}A&A=1;", 1);
        BENCH.faultDue("@01{Aw15:15;}A&A=2;", 4, 15);
        BENCH.faultDue("@01{Ar0:0;Bw1:1;}A&B=2;", 4, 17);
    }

    private static void firstKindThenFirstPlace() {
        BENCH.part("of the first kind that there is the first one");
        String two = "Bw0:1;";
        String three = "@01{Aw0:0;}@02?Z=0{Cw0:0;}@01{Dw0:0;";
        String four = "Z<A;Y<A;";
        BENCH.faultDue(three + two + "}" + four + "!", 1, (three + two + "}" + four).length());
        BENCH.faultDue(three + two + "}" + four, 2, three.length());
        BENCH.faultDue(three + "}" + four, 3, 15);
        BENCH.faultDue("@01{Aw0:0;}@02?A=0{Cw0:0;}@01{Dw0:0;}" + four, 3, 26);
        BENCH.faultDue("@01{Aw0:0;}@02?A=0{Cw0:0;}@03{Dw0:0;}" + four, 4, 37);
        BENCH.faultDue("@01{Aw0:0;}@02?A=0{Cw0:0;}@03{Dw0:0;}A<Y;Z<A;", 4, 39);
        BENCH.faultDue("@01{Aw0:0;}@02?A=0{Cw0:0;}@03{Dw0:0;}A<C;A<Y;", 4, 43);
        BENCH.faultDue("@01{Aw0:0=2;Aw1:1;Bw16:0;}", 2, 4);
        BENCH.faultDue("@01{Aw0:0;Bw16:0;Aw1:1;}", 2, 10);
        BENCH.faultDue("@01{Aw0:0;Bw1:0;Cw1:1=2;}", 2, 10);
        BENCH.faultDue("@01?Y=0{Aw0:0;}@02?Z=0{Bw0:0;}", 3, 4);
        BENCH.faultDue("@01{Aw0:0;}@01{Bw0:0;}@03?Z=0{Cw0:0;}", 3, 26);
        BENCH.faultDue("@01{Aw0:0;}@02{Bw0:0;}@02{Cw0:0;}@01{Dw0:0;}", 3, 22);
        BENCH.faultDue("@01{Aw0:0;@01{Aw0:0;}", 1, 10);
    }
}
