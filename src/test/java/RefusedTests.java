import java.util.ArrayList;
import java.util.List;

/**
 * A call that is refused, or that only asks, changes nothing: of two objects that went the same way one
 * has that call besides, and then both must answer the same to all that follows.
 */
public final class RefusedTests {
    private static final Bench BENCH = new Bench();
    private static final String MAP =
        "@01{Aw1:0;Bc5:2=f;Cp7:6;Do9:8=1;}@02?A=1{Er3:0=9;Ft7:4=f;Gs11:8;}@02?A=2{Hw3:0;Ic7:4=3;}D<H;C!D;F&D=2;";
    private static final String HALF = "@09{Zw3:0";

    /** One call, or a few. */
    private interface Act {
        int on(ChipMap x);
    }

    public static void main(String[] args) {
        BENCH.part("refused");
        refusedOnTheTape();
        refusedAtTheBus();
        refusedByTheDriver();
        refusedWhileJoined();
        refusedInTheScript();
        refusedWithoutAMap();
        BENCH.part("asked");
        asked(false);
        asked(true);
        BENCH.end();
    }

    /** A chip on which all kinds of things have happened; half of the next map is typed already. */
    private static ChipMap used(boolean joined) {
        ChipMap x = BENCH.chip(MAP);
        x.busWrite(1, 0x141);
        x.busRead(1);
        x.poke(1, 5);
        x.busWrite(1, 0x142);
        x.poke(8, 2);
        x.busRead(2);
        x.step(2, 0, 2);
        x.step(0, 3, 2);
        x.step(0, 7, 1);
        x.step(0, 2, 1);
        x.check();
        if (joined) {
            x.join(0, 3);
            x.join(7, 4);
            x.join(2, 1);
        }
        Bench.type(x, HALF);
        return x;
    }

    /** Whatever can be asked, and then what a hidden state would change. */
    private static List<Integer> answers(ChipMap x) {
        List<Integer> all = new ArrayList<>();
        for (int what = 0; what < 5; what++) {
            all.add(x.state(what));
        }
        for (int what = 0; what < 2; what++) {
            all.add(x.fault(what));
            all.add(x.found(what));
        }
        fields(x, all);
        traces(x, all);
        Act[] acts = {c -> c.flush(), c -> c.drop(), c -> c.run(0), c -> c.busRead(1), c -> c.busRead(1),
            c -> Bench.fetch(c, 8), c -> c.put(2, 1), c -> c.put(6, 1), c -> Bench.fetch(c, 1), c -> c.check(),
            c -> c.found(0), c -> c.run(1), c -> c.erase(), c -> c.state(1)};
        for (Act act : acts) {
            all.add(act.on(x));
        }
        fields(x, all);
        traces(x, all);
        all.add(Bench.compile(x, "=5;}Z<Z;"));
        all.add(x.fault(0));
        all.add(x.fault(1));
        all.add(x.field(25, 3));
        return all;
    }

    private static void fields(ChipMap x, List<Integer> all) {
        for (int f = 0; f < 9; f++) {
            all.add(x.field(f, 3));
            all.add(x.field(f, 4));
        }
    }

    private static void traces(ChipMap x, List<Integer> all) {
        for (int k = 0; k < 6; k++) {
            for (int what = 0; what < 3; what++) {
                all.add(x.trace(k, what));
            }
        }
    }

    private static void due(String call, boolean joined, int answer, Act act) {
        ChipMap x = used(joined);
        BENCH.due(call, act.on(x), answer);
        BENCH.due(call + " changes nothing", answers(x).equals(answers(used(joined))), true);
    }

    private static int number(boolean b) {
        return b ? 1 : 0;
    }

    private static void refusedOnTheTape() {
        due("type of 0", false, 0, x -> number(x.type('5', 0)));
        due("type of 9", false, 0, x -> number(x.type(0x3535353535353535L, 9)));
        due("type of a space", false, 0, x -> number(x.type(32, 1)));
        due("type of a 127", false, 0, x -> number(x.type(127, 1)));
        due("type of a good byte ahead of a bad one", false, 0, x -> number(x.type(0x3520, 2)));
        due("type of a bad byte ahead of a good one", false, 0, x -> number(x.type(0x2035, 2)));
        ChipMap x = BENCH.chip(MAP);
        Bench.type(x, "@01{Aw0:0=0001;}" + "A&A=0001;".repeat(12));
        for (int i = 0; i < 44; i++) {
            BENCH.due("on to 476", x.type(0x3535353535353535L, 8), true);
        }
        BENCH.due("5 where 4 fit", x.type(0x3535353535L, 5), false);
        BENCH.due("4 where 4 fit", x.type(0x35353535L, 4), true);
        BENCH.due("compile", Bench.compile(x), Bench.ILLEGAL_ARGUMENT);
        BENCH.due("place", x.fault(1), 124);
    }

    private static void refusedAtTheBus() {
        for (int offset : new int[] {0, 3, 258, -1}) {
            due("busWrite", false, -1, x -> x.busWrite(offset, 0xFFFF));
            due("busRead", false, -1, x -> x.busRead(offset));
        }
        due("poke of a w", false, 0, x -> number(x.poke(0, 1)));
        due("poke of an o", false, 0, x -> number(x.poke(3, 1)));
        due("poke of an s", false, 0, x -> number(x.poke(6, 1)));
        due("poke of a p", false, 0, x -> number(x.poke(2, 1)));
        due("poke of none", false, 0, x -> number(x.poke(9, 1)));
        due("poke of 16", false, 0, x -> number(x.poke(1, 16)));
        due("poke of -1", false, 0, x -> number(x.poke(1, -1)));
    }

    private static void refusedByTheDriver() {
        due("put to an r", false, -1, x -> x.put(4, 1));
        due("put to a c", false, -1, x -> x.put(1, 1));
        due("put of 4", false, -1, x -> x.put(0, 4));
        due("put of -1", false, -1, x -> x.put(0, -1));
        due("put to none", false, -1, x -> x.put(9, 0));
        due("put to 26", false, -1, x -> x.put(26, 0));
        due("put that would break D<H", false, -2, x -> x.put(7, 9));
        due("put that would break C!D", false, -2, x -> x.put(2, 1));
        due("put that would break F&D=2 behind the BANK's WRITE", false, -2, x -> x.put(5, 1));
        due("put that needs none", false, 0, x -> x.put(0, 2));
        due("fetch of an o", false, Bench.INDEX_OUT, x -> Bench.fetch(x, 3));
        due("fetch of none", false, Bench.INDEX_OUT, x -> Bench.fetch(x, 9));
        due("fetch of -1", false, Bench.INDEX_OUT, x -> Bench.fetch(x, -1));
        due("fetch of a w", false, 2, x -> Bench.fetch(x, 0));
        due("join to an r", false, -1, x -> x.join(4, 1));
        due("join of 4", false, -1, x -> x.join(0, 4));
        due("join to none", false, -1, x -> x.join(9, 0));
        due("flush of none", false, 0, ChipMap::flush);
        due("drop of none", false, 0, ChipMap::drop);
        due("join and drop", false, 1, x -> x.join(7, 1) * x.drop());
        ChipMap x = BENCH.chip("@01{Aw1:0;}@02?A=1{Br3:0=9;Cc7:4=6;}A<A;");
        BENCH.due("fetch on a way that is refused", Bench.fetch(x, 2), Bench.ILLEGAL_STATE);
        BENCH.due("value", x.field(2, 3), 6);
        BENCH.due("KEPT", x.field(2, 4), 0);
        BENCH.due("OPERATIONS", x.state(0), 0);
        x.busWrite(1, 1);
        BENCH.due("later", Bench.fetch(x, 2), 6);
    }

    private static void refusedWhileJoined() {
        due("put", true, -1, x -> x.put(0, 1));
        due("put that needs none", true, -1, x -> x.put(0, 2));
        due("fetch", true, Bench.ILLEGAL_STATE, x -> Bench.fetch(x, 4));
        due("fetch of a w", true, Bench.ILLEGAL_STATE, x -> Bench.fetch(x, 0));
        due("fetch of an o", true, Bench.INDEX_OUT, x -> Bench.fetch(x, 3));
        due("flush", true, -2, ChipMap::flush);
        due("run", true, -1, x -> x.run(0));
        due("join of 4", true, -1, x -> x.join(0, 4));
        ChipMap x = used(true);
        ChipMap other = used(true);
        for (int i = 4; i <= 8; i++) {
            x.join(3, 2);
            other.join(3, 2);
        }
        BENCH.due("a ninth", x.join(0, 0), -1);
        BENCH.due("a ninth changes nothing", answers(x).equals(answers(other)), true);
    }

    private static void refusedInTheScript() {
        due("kind 4", false, -1, x -> x.step(4, 0, 0));
        due("kind -1", false, -1, x -> x.step(-1, 0, 0));
        due("PUT to a c", false, -1, x -> x.step(0, 1, 0));
        due("PUT of 4", false, -1, x -> x.step(0, 0, 4));
        due("FETCH of an o", false, -1, x -> x.step(1, 3, 0));
        due("FETCH of none", false, -1, x -> x.step(1, 9, 0));
        due("GO to -1", false, -1, x -> x.step(2, 0, -1));
        due("GO to 41", false, -1, x -> x.step(2, 0, 41));
        due("check", false, 3, ChipMap::check);
        due("check", true, 3, ChipMap::check);
        ChipMap x = used(false);
        ChipMap other = used(false);
        for (int i = 4; i < 40; i++) {
            x.step(0, 3, i % 4);
            other.step(0, 3, i % 4);
        }
        BENCH.due("a 41st", x.step(0, 3, 1), -1);
        BENCH.due("a 41st changes nothing", answers(x).equals(answers(other)), true);
    }

    private static void refusedWithoutAMap() {
        Act[] acts = {x -> number(x.reset()), x -> x.busWrite(0, 1), x -> x.busRead(0), x -> number(x.poke(0, 0)),
            x -> x.put(0, 0), x -> Bench.fetch(x, 0), x -> x.join(0, 0), ChipMap::flush, ChipMap::drop,
            x -> x.step(3, 0, 0), ChipMap::erase, ChipMap::check, x -> x.run(0)};
        for (Act act : acts) {
            ChipMap x = new ChipMap();
            act.on(x);
            BENCH.due("without a map", bare(x).equals(bare(new ChipMap())), true);
        }
    }

    private static List<Integer> bare(ChipMap x) {
        List<Integer> all = new ArrayList<>();
        for (int what = 0; what < 5; what++) {
            all.add(x.state(what));
        }
        traces(x, all);
        all.add(x.fault(0));
        all.add(x.found(0));
        all.add(x.found(1));
        all.add(Bench.compile(x, "@01{Aw1:0=1;}A<A;"));
        all.add(x.busWrite(1, 2));
        return all;
    }

    private static void asked(boolean joined) {
        for (int what = -1; what < 6; what++) {
            int w = what;
            ChipMap x = used(joined);
            x.state(w);
            x.fault(w);
            x.found(w);
            for (int i = -1; i < 27; i++) {
                x.field(i, w);
                x.trace(i, w);
            }
            BENCH.due("what " + w + " changes nothing", answers(x).equals(answers(used(joined))), true);
        }
    }
}
