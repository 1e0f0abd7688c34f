/** Promises 16 to 20: scripts, their check and their run. */
public final class ScriptTests {
    private static final Bench BENCH = new Bench();
    private static final int PUT = 0;
    private static final int FETCH = 1;
    private static final int GO = 2;
    private static final int END = 3;

    public static void main(String[] args) {
        stepping();
        erasing();
        checking();
        checkingBanks();
        checkTellsTheLeast();
        checkLeavesTheDevice();
        situations();
        situationsOfALargeMap();
        limitOfSituations();
        foundAnswers();
        running();
        runningLong();
        BENCH.end();
    }

    private static void steps(ChipMap x, int... rows) {
        x.erase();
        for (int i = 0; i < rows.length; i += 3) {
            BENCH.due("step " + i / 3, x.step(rows[i], rows[i + 1], rows[i + 2]), i / 3);
        }
    }

    private static void checkDue(ChipMap x, int answer, int situations, int rule) {
        BENCH.due("check", x.check(), answer);
        BENCH.due("found(0)", x.found(0), situations);
        BENCH.due("found(1)", x.found(1), rule);
    }

    private static void stepping() {
        BENCH.part("promise 16");
        BENCH.due("no map", new ChipMap().step(END, 0, 0), -1);
        ChipMap x = BENCH.chip("@01{Aw1:0;Br3:2;Co5:4;Dc7:6;Et9:8;Fs11:10;Gp13:12;}");
        boolean[] canPut = {true, false, true, false, true, true, true, false};
        boolean[] canFetch = {true, true, false, true, true, true, true, false};
        int n = 0;
        for (int f = 0; f < 8; f++) {
            BENCH.due("PUT " + f, x.step(PUT, f, 3), canPut[f] ? n : -1);
            n += canPut[f] ? 1 : 0;
            BENCH.due("FETCH " + f, x.step(FETCH, f, -7), canFetch[f] ? n : -1);
            n += canFetch[f] ? 1 : 0;
            BENCH.due("PUT of 4", x.step(PUT, f, 4), -1);
            BENCH.due("PUT of -1", x.step(PUT, f, -1), -1);
        }
        BENCH.due("PUT to -1", x.step(PUT, -1, 0), -1);
        BENCH.due("FETCH of 26", x.step(FETCH, 26, 0), -1);
        BENCH.due("GO -1", x.step(GO, 0, -1), -1);
        BENCH.due("GO 41", x.step(GO, 0, 41), -1);
        BENCH.due("kind 4", x.step(4, 0, 0), -1);
        BENCH.due("kind -1", x.step(-1, 0, 0), -1);
        BENCH.due("GO 0", x.step(GO, 99, 0), n);
        BENCH.due("GO 40", x.step(GO, -99, 40), n + 1);
        BENCH.due("END", x.step(END, -99, -99), n + 2);
        for (int i = n + 3; i < 40; i++) {
            BENCH.due("END", x.step(END, 0, 0), i);
        }
        BENCH.due("a 41st", x.step(END, 0, 0), -1);
        BENCH.due("state(3)", x.state(3), 40);
    }

    private static void erasing() {
        BENCH.part("promise 17");
        ChipMap x = BENCH.chip("@01{Aw1:0;}");
        BENCH.due("none", x.erase(), 0);
        steps(x, PUT, 0, 1, END, 0, 0);
        BENCH.due("two", x.erase(), 2);
        BENCH.due("none any more", x.erase(), 0);
        BENCH.due("state(3)", x.state(3), 0);
        BENCH.due("run", x.run(0), 0);
        BENCH.due("nothing done", x.field(0, 3), 0);
        BENCH.due("from 0 on again", x.step(END, 0, 0), 0);
    }

    private static void checking() {
        BENCH.part("promise 18");
        BENCH.due("no map", new ChipMap().check(), -1);
        ChipMap x = BENCH.chip("@01{Aw3:0;Bw7:4;Ct11:8;Do15:12=2;}A<B;C&D=2;C!A;");
        checkDue(x, 0, 1, 0);
        steps(x, PUT, 0, 1, PUT, 1, 1, PUT, 2, 1, PUT, 0, 2, PUT, 2, 1);
        checkDue(x, 0, 6, 0);
        steps(x, PUT, 1, 1);
        checkDue(x, 1, 1, 1);
        steps(x, PUT, 1, 0, PUT, 3, 2, PUT, 3, 1, PUT, 2, 0, PUT, 2, 8);
        checkDue(x, 5, 5, 2);
        steps(x, PUT, 2, 1, PUT, 2, 2);
        checkDue(x, 2, 2, 3);
        steps(x, PUT, 2, 1, GO, 0, 3, PUT, 0, 1, PUT, 2, 2);
        checkDue(x, 4, 6, 3);
        steps(x, END, 0, 0, PUT, 1, 1);
        checkDue(x, 0, 2, 0);
        steps(x, GO, 0, 40, END, 0, 0);
        checkDue(x, 0, 3, 0);
        steps(x, GO, 0, 1, END, 0, 0);
        checkDue(x, 0, 3, 0);
        steps(x, GO, 0, 0);
        checkDue(x, 0, 2, 0);
    }

    private static void checkingBanks() {
        ChipMap x = BENCH.chip("@01{Aw1:0;Bw3:2;}@02?A=1{Cr3:0;Dw7:4;}B<A;D&B=1;");
        steps(x, FETCH, 3, 0);
        checkDue(x, 0, 2, 0);
        steps(x, FETCH, 2, 0);
        checkDue(x, 1, 1, 1);
        steps(x, PUT, 3, 1);
        checkDue(x, 1, 1, 1);
        steps(x, PUT, 1, 2, FETCH, 2, 0, PUT, 3, 1);
        checkDue(x, 3, 3, 2);
        steps(x, PUT, 1, 1, FETCH, 2, 0, PUT, 3, 1, PUT, 0, 0, PUT, 3, 2);
        checkDue(x, 0, 6, 0);
    }

    private static void checkTellsTheLeast() {
        ChipMap x = BENCH.chip("@01{Aw1:0;Bw3:2;Cw5:4;}B&C=1;A<B;A!C;");
        steps(x, GO, 0, 4, PUT, 2, 1, GO, 0, 4, PUT, 0, 1, PUT, 1, 1);
        // Step 4 breaks rule 0 from step 0, rule 1 from step 2; on the third way it breaks none.
        checkDue(x, 5, 8, 1);
        steps(x, GO, 0, 3, PUT, 2, 0, GO, 0, 5, PUT, 2, 1, PUT, 1, 0, PUT, 1, 1);
        // The way over step 3 breaks rule 1, the one over step 2 rule 0.
        checkDue(x, 6, 7, 1);
        x = BENCH.chip("@01{Aw1:0;Bw3:2;Cw5:4;}A<B;B&C=1;");
        steps(x, GO, 0, 3, PUT, 0, 1, GO, 0, 4, PUT, 2, 1, PUT, 1, 1);
        checkDue(x, 5, 9, 1);
        x = BENCH.chip("@01{Aw1:0;Bw3:2;Cw5:4;}B&C=1;A<B;");
        steps(x, PUT, 2, 1, GO, 0, 3, PUT, 2, 0, PUT, 1, 1);
        // The way that comes first to step 3 breaks rule 1, the later one rule 0.
        checkDue(x, 4, 5, 1);
        steps(x, GO, 0, 2, PUT, 1, 1, PUT, 1, 2);
        checkDue(x, 2, 3, 1);
        steps(x, PUT, 2, 1, PUT, 1, 1, PUT, 1, 1);
        checkDue(x, 2, 2, 2);
        steps(x, GO, 0, 3, GO, 0, 2, END, 0, 0, PUT, 1, 1, PUT, 1, 2);
        checkDue(x, 4, 5, 1);
    }

    private static void checkLeavesTheDevice() {
        ChipMap x = BENCH.chip("@01{Aw1:0;Bw3:2;Cc5:4;}A<B;");
        x.put(0, 2);
        x.poke(2, 3);
        x.busRead(1);
        x.join(0, 1);
        steps(x, PUT, 0, 1, PUT, 1, 1, FETCH, 2, 0);
        checkDue(x, 0, 4, 0);
        steps(x, PUT, 1, 1);
        checkDue(x, 1, 1, 1);
        BENCH.due("A", x.field(0, 3), 2);
        BENCH.due("B", x.field(1, 3), 0);
        BENCH.due("KEPT", x.field(2, 4), 3);
        BENCH.due("state(0)", x.state(0), 2);
        BENCH.due("state(2)", x.state(2), 1);
        BENCH.due("flush", x.flush(), 1);
        BENCH.due("what was WRITTEN", x.busWrite(1, 5), 0);
    }

    private static void situations() {
        BENCH.part("promises 18 and 19, situations");
        ChipMap x = BENCH.chip("@01{Aw1:0;Bt3:2;Cs5:4;Dp7:6;}");
        steps(x, PUT, 1, 1, PUT, 2, 1, PUT, 3, 1, GO, 0, 0);
        checkDue(x, 0, 5, 0);
        x = BENCH.chip("@01{Aw1:0;Bt3:2;}B<A;");
        steps(x, PUT, 1, 1, GO, 0, 0);
        checkDue(x, 0, 4, 0);
        x = BENCH.chip("@01{Aw1:0;Bt3:2;Cs5:4;}B!C;");
        steps(x, PUT, 1, 1, PUT, 2, 1, GO, 0, 0);
        checkDue(x, 0, 4, 0);
        x = BENCH.chip("@01{Aw1:0;}A&A=0;");
        steps(x, GO, 0, 0, PUT, 0, 1, PUT, 0, 0);
        checkDue(x, 3, 3, 1);
        x = BENCH.chip("@01{Ao1:0;}@02{Bo15:0;}");
        steps(x, PUT, 0, 1, PUT, 1, 65535, PUT, 0, 0, PUT, 1, 0, GO, 0, 0);
        checkDue(x, 0, 6, 0);
    }

    private static void situationsOfALargeMap() {
        StringBuilder tape = new StringBuilder();
        for (int r = 0; r < 16; r++) {
            tape.append("@f").append(Integer.toHexString(r)).append('{').append((char) ('A' + r)).append("o15:0=8000;}");
        }
        ChipMap x = BENCH.chip(tape + "A<P;P!O;");
        for (int r = 0; r < 16; r++) {
            x.step(PUT, r, 65535);
        }
        for (int r = 0; r < 16; r++) {
            x.step(PUT, r, 0);
        }
        x.step(GO, 0, 0);
        // 33 steps and the END; the second round is the first one again, when all have 65535.
        checkDue(x, 0, 34 + 16, 0);
        x.step(PUT, 14, 1);
        x.step(PUT, 15, 1);
        x.step(PUT, 15, 2);
        BENCH.due("check", x.check(), 36);
        BENCH.due("found(1)", x.found(1), 2);
        BENCH.due("the device stays", x.field(15, 3), 0x8000);
    }

    private static void limitOfSituations() {
        ChipMap x = BENCH.chip("@01{Aw3:0;Bw7:4;Cw11:8;Dw15:12;}@02{Ew0:0;Fw1:1;}E<F;");
        // From step 0 on any of 12 PUTS is done or left out, again and again.
        for (int i = 0; i < 12; i++) {
            x.step(GO, 0, 3 * i + 2);
            x.step(PUT, i % 4, 1 + i / 4);
            x.step(GO, 0, 0);
        }
        checkDue(x, -2, 1000, 0);
        x.step(PUT, 5, 1);
        checkDue(x, -2, 1000, 0);
        situationsDue(new int[] {4, 2, 1, 2, 2, 4, 4, 1}, 0, 999);
        situationsDue(new int[] {4, 2, 1, 2, 2, 4, 4, 2}, 0, 1000);
        situationsDue(new int[] {4, 2, 1, 2, 2, 4, 4, 3}, -2, 1000);
    }

    /**
     * Seven bits that may be set or not give 254 situations on the way to 128 states; then each
     * of these goes through levels[0] steps, when A is set: 64 are left for levels[1] steps, and so
     * on, the END being the last step of the last level.
     */
    private static void situationsDue(int[] levels, int answer, int situations) {
        ChipMap x = BENCH.chip("@01{Aw0:0;Bw1:1;Cw2:2;Dw3:3;Ew4:4;Fw5:5;Gw6:6;}");
        for (int k = 0; k < 7; k++) {
            x.step(GO, 0, 2 * k + 2);
            x.step(PUT, k, 1);
        }
        for (int k = 0; k < levels.length; k++) {
            for (int i = 1; i < levels[k]; i++) {
                x.step(FETCH, 0, 0);
            }
            if (k < 7) {
                x.step(PUT, k, 1);
            }
        }
        checkDue(x, answer, situations, 0);
    }

    private static void foundAnswers() {
        BENCH.part("promise 19");
        ChipMap x = new ChipMap();
        BENCH.due("found(0)", x.found(0), 0);
        BENCH.due("found(1)", x.found(1), 0);
        BENCH.due("found(2)", x.found(2), -1);
        BENCH.due("found(-1)", x.found(-1), -1);
        x = BENCH.chip("@01{Aw0:0;}A<A;");
        BENCH.due("ahead of a check", x.found(0), 0);
        steps(x, PUT, 0, 1);
        checkDue(x, 1, 1, 1);
        x.erase();
        x.reset();
        BENCH.due("still the latest", x.found(0), 1);
        BENCH.due("still the latest", x.found(1), 1);
        checkDue(x, 0, 1, 0);
        BENCH.due("found(2)", x.found(2), -1);
    }

    private static void running() {
        BENCH.part("promise 20");
        BENCH.due("no map", new ChipMap().run(0), -1);
        ChipMap x = BENCH.chip("@01{Aw3:0;Bw7:4;Cc11:8;}@02?A=5{Dr3:0;}A<B;");
        BENCH.due("an empty script", x.run(0), 0);
        steps(x, GO, 0, 2, PUT, 0, 1, PUT, 1, 2, FETCH, 3, 0, END, 0, 0, PUT, 0, 9);
        BENCH.due("refused", x.run(1), 3);
        BENCH.due("nothing done", x.state(0), 0);
        x.poke(2, 3);
        BENCH.due("ends", x.run(0), 0);
        BENCH.due("A by the FETCH", x.field(0, 3), 5);
        BENCH.due("B", x.field(1, 3), 2);
        BENCH.due("OPERATIONS", x.state(0), 4);
        BENCH.due("as it is", x.run(1), 0);
        BENCH.due("OPERATIONS", x.state(0), 5);
        steps(x, FETCH, 2, 0);
        x.busRead(1);
        BENCH.due("KEPT", x.field(2, 4), 3);
        BENCH.due("a FETCH takes it", x.run(0), 0);
        BENCH.due("KEPT no more", x.field(2, 4), 0);
        x.join(0, 1);
        BENCH.due("JOINED", x.run(0), -1);
        x.drop();
        steps(x, GO, 0, 40, PUT, 0, 12);
        BENCH.due("beyond the last one", x.run(1), 0);
        BENCH.due("A", x.field(0, 3), 5);
        ChipMap y = BENCH.chip("@01{Aw1:0;Bw3:2;}@02?A=1{Cr3:0;}B<A;");
        y.step(PUT, 0, 0);
        y.step(FETCH, 2, 0);
        y.step(PUT, 1, 1);
        BENCH.due("a FETCH that is refused", y.run(0), 2);
        BENCH.due("it ends there", y.field(1, 3), 0);
        x.reset();
        steps(x, PUT, 0, 3, PUT, 1, 1, PUT, 0, 0, END, 0, 0);
        BENCH.due("run", x.run(0), 0);
        BENCH.due("A was WRITTEN then", x.put(1, 2), 1);
    }

    private static void runningLong() {
        ChipMap x = BENCH.chip("@01{Aw15:0;}");
        steps(x, GO, 0, 0);
        BENCH.due("31 times", x.run(0x7FFFFFFF), 0);
        BENCH.due("for ever", x.run(-1), -2);
        // Loops of two steps; bits 0 and 1 of each round are looked at, lowest first.
        steps(x, GO, 0, 3, PUT, 0, 1, GO, 0, 0, PUT, 0, 2);
        BENCH.due("first bit", x.run(1), 0);
        BENCH.due("A", x.field(0, 3), 2);
        BENCH.due("second bit, then the third", x.run(2), 0);
        BENCH.due("1 and then 2", x.trace(0, 2), 2);
        BENCH.due("1 and then 2", x.trace(1, 2), 1);
        BENCH.due("OPERATIONS", x.state(0), 3);
        bitsGoRound();
        stepsToTheEnd();
    }

    private static void bitsGoRound() {
        ChipMap x = BENCH.chip("@01{At15:0;}");
        // 33 GOs: the 33rd looks at the lowest bit again.
        x.step(PUT, 0, 1);
        for (int i = 0; i < 32; i++) {
            x.step(GO, 0, i + 2);
        }
        x.step(GO, 0, 35);
        x.step(PUT, 0, 2);
        x.run(1);
        BENCH.due("gone at the 33rd", x.state(0), 1);
        x.run(2);
        BENCH.due("not gone at the 33rd", x.state(0), 3);
    }

    private static void stepsToTheEnd() {
        ChipMap x = BENCH.chip("@01{At15:0;}");
        // 10 steps a round, 29 rounds that go back and one that does not: 300 steps.
        for (int i = 0; i < 9; i++) {
            x.step(PUT, 0, 1);
        }
        x.step(GO, 0, 0);
        BENCH.due("the 300th is the last one", x.run(0x1FFFFFFF), 0);
        BENCH.due("PUTS", x.state(0), 270);
        x.step(END, 0, 0);
        BENCH.due("an END as the 301st", x.run(0x1FFFFFFF), -2);
        BENCH.due("an END as the 291st", x.run(0x0FFFFFFF), 0);
        BENCH.due("PUTS", x.state(0), 270 + 270 + 261);
    }
}
