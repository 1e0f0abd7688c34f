import java.util.Random;

/** Random runs, of a fixed seed, beside the plain program of Model. */
public final class ModelTests {
    private static final Bench BENCH = new Bench();
    private static final Random RANDOM = new Random(20261115);
    private static final int[] checks = new int[3];
    private static int mostRegisters;
    private static final int MOST_CALLS = 200;

    public static void main(String[] args) {
        for (int i = 0; i < 4000; i++) {
            faults(i);
        }
        for (int i = 0; i < 4000; i++) {
            calls(i, i % 4 == 3);
        }
        System.out.println("checks: " + checks[0] + " told none, " + checks[1] + " a step, " + checks[2] + " too many");
        BENCH.part("the runs");
        BENCH.due("most registers of a map", mostRegisters, 16);
        BENCH.end();
    }

    private static int up(int n) {
        return RANDOM.nextInt(n);
    }

    /** A map that has mostly no fault: names and bits are taken only once. */
    private static String tape(int registers) {
        StringBuilder tape = new StringBuilder();
        StringBuilder names = new StringBuilder();
        String banks = "";
        int width = 1 + up(3);
        for (int r = 0; r < registers; r++) {
            boolean banked = !banks.isEmpty() && up(2) == 0;
            tape.append('@').append(banked ? "7" : "0").append(Integer.toHexString(banked ? up(3) : r));
            if (banked) {
                tape.append('?').append(banks.charAt(up(banks.length()))).append('=').append(up(1 << Math.min(width, 2)));
            }
            tape.append('{');
            int low = 0;
            int count = 1 + up(4);
            for (int i = 0; i < count && names.length() < 26 && low + width <= 16; i++) {
                char name = (char) ('A' + names.length());
                names.append(name);
                char access = up(2) == 0 ? 'w' : "wroctsp".charAt(up(7));
                if (!banked && access == 'w') {
                    banks += name;
                }
                tape.append(name).append(access).append(low + width - 1).append(':').append(low);
                if (up(3) == 0) {
                    tape.append('=').append(Integer.toHexString(up(1 << width)));
                }
                tape.append(';');
                low += width + up(2);
            }
            tape.append('}');
        }
        int rules = up(4) == 0 ? 0 : up(13);
        for (int i = 0; i < rules; i++) {
            char a = names.charAt(up(names.length()));
            char b = names.charAt(up(names.length()));
            int kind = up(3);
            tape.append(a).append("<&!".charAt(kind)).append(b);
            if (kind == 1) {
                tape.append('=').append(Integer.toHexString(up(1 << width)));
            }
            tape.append(';');
        }
        return tape.toString();
    }

    /** A map of up to 16 registers and 26 fields of all widths, as far as the tape goes. */
    private static String wideTape() {
        StringBuilder tape = new StringBuilder();
        int registers = up(4) == 0 ? 16 : 1 + up(16);
        int[] atReset = new int[26];
        int names = 0;
        String banks = "";
        String writable = "";
        String known = "";
        for (int r = 0; r < registers && names < 26; r++) {
            boolean banked = !banks.isEmpty() && up(3) != 0;
            tape.append(String.format("@%02x", banked ? 0xf0 + up(8) : r * 15));
            if (banked) {
                char bank = banks.charAt(up(banks.length()));
                tape.append('?').append(bank).append('=').append(Integer.toHexString(up(up(2) == 0 ? 2 : 4)));
            }
            tape.append('{');
            int bit = up(3);
            int most = Math.max(1, Math.min(8, 26 - names - (registers - r - 1)));
            for (int i = 0; (i == 0 || i < most && up(3) != 0) && bit < 16; i++) {
                int width = Math.min(16 - bit, 1 + up(up(4) == 0 ? 16 : 5));
                char access = up(2) == 0 ? 'w' : "wroctsp".charAt(up(7));
                char name = (char) ('A' + names);
                banks += !banked && access == 'w' && width > 1 ? name : "";
                writable += access != 'r' && access != 'c' ? name : "";
                known += access == 'w' || access == 'o' ? name : "";
                atReset[names] = up(3) == 0 ? up(1 << width) : 0;
                tape.append(name).append(access).append(bit + width - 1).append(':').append(bit);
                tape.append(atReset[names] != 0 ? "=" + Integer.toHexString(atReset[names]) : "").append(';');
                names++;
                bit += width + up(2);
            }
            tape.append('}');
        }
        int rules = known.isEmpty() ? 0 : up(13);
        for (int i = 0; i < rules && tape.length() < 472; i++) {
            char a = writable.charAt(up(writable.length()));
            char b = writable.charAt(up(writable.length()));
            char c = known.charAt(up(known.length()));
            String value = Integer.toHexString(up(3) == 0 ? up(2) : atReset[c - 'A']);
            tape.append(a).append(new String[] {"<" + b, "!" + b, "&" + c + "=" + value}[up(3)]).append(';');
        }
        return tape.toString();
    }

    private static String changed(String tape) {
        StringBuilder text = new StringBuilder(tape);
        int changes = up(3);
        for (int i = 0; i < changes && text.length() > 0; i++) {
            int at = up(text.length());
            int way = up(4);
            char c = "@?{}=:;<&!0123459afgwroctspABCDEZ".charAt(up(33));
            if (way == 0) {
                text.deleteCharAt(at);
            } else if (way == 1) {
                text.insert(at, c);
            } else if (way == 2) {
                text.setCharAt(at, c);
            } else {
                text.setCharAt(at, text.charAt(up(text.length())));
            }
        }
        return text.toString();
    }

    private static void faults(int i) {
        String tape = changed(tape(1 + up(5)));
        if (tape.length() > 480) {
            return;
        }
        BENCH.part("tape " + tape);
        Model model = new Model(tape);
        ChipMap x = new ChipMap();
        int answer = Bench.compile(x, tape);
        BENCH.due("compile", answer, model.faultKind == 0 ? model.registers.size() : Bench.ILLEGAL_ARGUMENT);
        BENCH.due("fault(0)", x.fault(0), model.faultKind);
        BENCH.due("fault(1)", x.fault(1), model.faultPlace);
    }

    private static void calls(int i, boolean wide) {
        String tape;
        Model model;
        int tries = 0;
        do {
            tape = wide ? wideTape() : tape(1 + up(5));
            model = new Model(tape);
            tries++;
        } while (tries < 5000 && (model.faultKind != 0 || tape.length() > 480));
        mostRegisters = Math.max(mostRegisters, model.registers.size());
        ChipMap x = BENCH.chip(tape);
        int before = BENCH.asked();
        // One turn makes at most some 90 calls; with the typing and the last look all stay under 512.
        for (int n = 0; n < MOST_CALLS && BENCH.asked() - before < MOST_CALLS; n++) {
            BENCH.part("run " + i + ", call " + n + " with " + tape);
            oneCall(x, model);
            lookSomewhere(x, model);
        }
        compareAll(x, model);
    }

    private static void lookSomewhere(ChipMap x, Model model) {
        int what = up(7) - 1;
        BENCH.due("state(" + what + ")", x.state(what), model.state(what));
        int f = someField(model);
        BENCH.due("field(" + f + ", " + what + ")", x.field(f, what), model.field(f, what));
        int k = up(up(2) == 0 ? 4 : 70);
        BENCH.due("trace(" + k + ", " + what + ")", x.trace(k, what), model.trace(k, what));
    }

    private static int someField(Model model) {
        return up(12) == 0 ? up(28) - 1 : up(model.fields.size());
    }

    private static int someValue(Model model, int f) {
        Model.Field field = model.field(f);
        if (field == null || up(10) == 0) {
            return up(20) - 2;
        }
        int all = 1 << (field.high - field.low + 1);
        return up(5) == 0 ? all - up(3) : up(3) == 0 ? up(all) : up(4);
    }

    private static int someOffset(Model model) {
        return up(10) == 0 ? up(300) - 10 : model.registers.get(up(model.registers.size())).offset;
    }

    private static void oneCall(ChipMap x, Model model) {
        int f = someField(model);
        int v = someValue(model, f);
        switch (up(18)) {
            case 0:
                int word = up(2) == 0 ? up(65536) : RANDOM.nextInt();
                int to = someOffset(model);
                BENCH.due("busWrite", x.busWrite(to, word), model.busWrite(to, word));
                break;
            case 1:
                int from = someOffset(model);
                BENCH.due("busRead", x.busRead(from), model.busRead(from));
                break;
            case 2:
            case 3:
                BENCH.due("poke", x.poke(f, v), model.poke(f, v));
                break;
            case 4:
            case 5:
            case 6:
                BENCH.due("put(" + f + ", " + v + ")", x.put(f, v), model.put(f, v));
                break;
            case 7:
            case 8:
                BENCH.due("fetch(" + f + ")", Bench.fetch(x, f), model.fetch(f));
                break;
            case 9:
                someJoined(x, model);
                break;
            case 10:
                if (up(8) == 0) {
                    BENCH.due("drop", x.drop(), model.joined.size());
                    model.joined.clear();
                }
                break;
            case 11:
            case 12:
                BENCH.due("flush", x.flush(), model.flush());
                break;
            case 13:
                if (up(4) == 0) {
                    BENCH.due("reset", x.reset(), true);
                    model.reset();
                }
                break;
            case 14:
                int choices = up(8) == 0 ? -1 : RANDOM.nextInt();
                BENCH.due("run(" + choices + ")", x.run(choices), model.run(choices));
                break;
            case 15:
                if (up(2) == 0) {
                    newScript(x, model);
                }
                break;
            default:
                someStep(x, model);
                break;
        }
    }

    private static void someJoined(ChipMap x, Model model) {
        int count = 1 + up(10);
        for (int i = 0; i < count; i++) {
            int f = someField(model);
            int v = someValue(model, f);
            BENCH.due("join(" + f + ", " + v + ")", x.join(f, v), model.join(f, v));
        }
    }

    private static void someStep(ChipMap x, Model model) {
        int kind = up(20) == 0 ? up(8) - 2 : up(8) == 0 ? 2 : up(3) == 0 ? 1 : 0;
        int f = someField(model);
        int v = kind == 2 ? up(45) - 2 : someValue(model, f);
        BENCH.due("step", x.step(kind, f, v), model.step(kind, f, v));
    }

    private static void newScript(ChipMap x, Model model) {
        BENCH.due("erase", x.erase(), model.script.size());
        model.script.clear();
        if (up(4) == 0) {
            loopOfPuts(x, model);
        }
        int count = up(43);
        boolean wild = up(2) == 0;
        for (int i = 0; i < count; i++) {
            int kind = up(30) == 0 ? 3 : up(3) == 0 ? 2 : up(6) == 0 ? 1 : 0;
            int f = someField(model);
            int v = kind != 2 ? someValue(model, f) : wild ? up(41) : Math.max(0, Math.min(40, i + up(7) - 2));
            BENCH.due("step", x.step(kind, f, v), model.step(kind, f, v));
        }
        int answer = model.check();
        checks[answer == 0 ? 0 : answer > 0 ? 1 : 2]++;
        BENCH.due("check", x.check(), answer);
        BENCH.due("found(0)", x.found(0), model.foundSituations);
        BENCH.due("found(1)", x.found(1), model.foundRule);
    }

    /** PUTS that may each be left out, and all of it again: this meets many situations. */
    private static void loopOfPuts(ChipMap x, Model model) {
        int count = 4 + up(15);
        for (int i = 0; i < count; i++) {
            int next = model.script.size() + 2;
            BENCH.due("step", x.step(2, 0, next), model.step(2, 0, next));
            int f = someField(model);
            int v = someValue(model, f);
            BENCH.due("step", x.step(0, f, v), model.step(0, f, v));
        }
        BENCH.due("step", x.step(2, 0, 0), model.step(2, 0, 0));
    }

    private static void compareAll(ChipMap x, Model model) {
        for (int what = -1; what < 6; what++) {
            BENCH.due("state(" + what + ")", x.state(what), model.state(what));
        }
        for (int f = -1; f < 27; f++) {
            BENCH.due("field(" + f + ", 3)", x.field(f, 3), model.field(f, 3));
            BENCH.due("field(" + f + ", 4)", x.field(f, 4), model.field(f, 4));
            BENCH.due("field(" + f + ", 0)", x.field(f, 0), model.field(f, 0));
        }
        for (int k = -1; k < 10; k++) {
            for (int what = -1; what < 4; what++) {
                BENCH.due("trace(" + k + ", " + what + ")", x.trace(k, what), model.trace(k, what));
            }
        }
    }
}
