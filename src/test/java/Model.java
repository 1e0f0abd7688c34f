import java.util.ArrayList;
import java.util.Collections;
import java.util.HashSet;
import java.util.LinkedHashMap;
import java.util.LinkedHashSet;
import java.util.List;
import java.util.Map;
import java.util.Set;
import java.util.TreeMap;
import java.util.regex.Matcher;
import java.util.regex.Pattern;

/**
 * The document once more, as plainly as the Java library allows: patterns for the tape, a list of all
 * WRITES since the RESET for the rules, copies of the whole state for what might be refused.
 */
final class Model {
    private static final String FIELD = "[A-Z][wroctsp]\\d{1,2}:\\d{1,2}(?:=[0-9a-f]{1,4})?;";
    private static final String REGISTER = "@[0-9a-f]{2}(?:\\?[A-Z]=[0-9a-f])?\\{(?:" + FIELD + "){1,8}\\}";
    private static final String RULE = "[A-Z](?:[<!][A-Z]|&[A-Z]=[0-9a-f]{1,4});";
    private static final Pattern MAP = Pattern.compile("(?:" + REGISTER + "){1,16}(?:" + RULE + "){0,12}");

    /** A field as described. */
    static final class Field {
        char name;
        char access;
        int high;
        int low;
        int atReset;
        int place;
        Register home;

        boolean fits(int v) {
            return v >= 0 && v < (1 << (high - low + 1));
        }

        int of(int word) {
            return (word >> low) % (1 << (high - low + 1));
        }

        boolean isKnown() {
            return access == 'w' || access == 'o';
        }
    }

    /** A register as described. */
    static final class Register {
        int number;
        int offset;
        int place;
        char bank;
        int bankPlace;
        int digit;
        final List<Field> fields = new ArrayList<>();
    }

    /** A rule as described. */
    static final class Rule {
        char a;
        char sign;
        char b;
        int value;
        int place;
    }

    /** Everything that OPERATIONS change. */
    static final class State {
        Map<Character, Integer> values = new TreeMap<>();
        Map<Character, Integer> kept = new TreeMap<>();
        Map<Character, Integer> readsLeft = new TreeMap<>();
        List<Set<Character>> written = new ArrayList<>();
        List<int[]> operations = new ArrayList<>();

        State copy() {
            State s = new State();
            s.values.putAll(values);
            s.kept.putAll(kept);
            s.readsLeft.putAll(readsLeft);
            s.written.addAll(written);
            s.operations.addAll(operations);
            return s;
        }
    }

    final List<Register> registers = new ArrayList<>();
    final Map<Character, Field> fields = new LinkedHashMap<>();
    final List<Rule> rules = new ArrayList<>();
    int faultKind;
    int faultPlace;

    State now = new State();
    int rulesBroken;
    final List<int[]> joined = new ArrayList<>();
    final List<int[]> script = new ArrayList<>();
    int foundSituations;
    int foundRule;

    Model(String tape) {
        if (!MAP.matcher(tape).matches()) {
            fault(1, firstThatCannotStand(tape));
            return;
        }
        List<Field> rows = readRegisters(tape);
        if (faultKind == 0) {
            findFieldFault(rows);
        }
        if (faultKind == 0) {
            findBankFault();
        }
        if (faultKind == 0) {
            readRules(tape);
        }
        if (faultKind == 0) {
            reset();
        }
    }

    private void fault(int kind, int place) {
        if (faultKind == 0) {
            faultKind = kind;
            faultPlace = place;
        }
    }

    private static int firstThatCannotStand(String tape) {
        for (int n = 1; n <= tape.length(); n++) {
            Matcher m = MAP.matcher(tape.substring(0, n));
            if (!m.matches() && !m.hitEnd()) {
                return n - 1;
            }
        }
        return tape.length();
    }

    private List<Field> readRegisters(String tape) {
        List<Field> rows = new ArrayList<>();
        Matcher m = Pattern.compile(REGISTER).matcher(tape);
        while (m.find()) {
            Register r = new Register();
            r.number = registers.size();
            r.place = m.start();
            String text = m.group();
            r.offset = Integer.parseInt(text.substring(1, 3), 16);
            if (text.charAt(3) == '?') {
                r.bank = text.charAt(4);
                r.bankPlace = r.place + 4;
                r.digit = Integer.parseInt(text.substring(6, 7), 16);
            }
            int from = text.indexOf('{') + 1;
            Matcher each = Pattern.compile("(.)(.)(\\d+):(\\d+)(?:=(\\w+))?;").matcher(text.substring(from));
            while (each.find()) {
                Field f = new Field();
                f.name = each.group(1).charAt(0);
                f.access = each.group(2).charAt(0);
                f.high = Integer.parseInt(each.group(3));
                f.low = Integer.parseInt(each.group(4));
                f.atReset = each.group(5) == null ? 0 : Integer.parseInt(each.group(5), 16);
                f.place = r.place + from + each.start();
                f.home = r;
                r.fields.add(f);
                rows.add(f);
            }
            registers.add(r);
        }
        return rows;
    }

    private void findFieldFault(List<Field> rows) {
        for (Field f : rows) {
            if (f.high > 15 || f.high < f.low || !f.fits(f.atReset) || fields.containsKey(f.name)) {
                fault(2, f.place);
                return;
            }
            for (Field g : f.home.fields) {
                if (g == f) {
                    break;
                }
                if (f.low <= g.high && g.low <= f.high) {
                    fault(2, f.place);
                    return;
                }
            }
            fields.put(f.name, f);
        }
    }

    private void findBankFault() {
        for (Register r : registers) {
            Field f = fields.get(r.bank);
            if (r.bank != 0 && (f == null || f.access != 'w' || f.home.bank != 0 || !f.fits(r.digit))) {
                fault(3, r.bankPlace);
            }
        }
        for (Register r : registers) {
            for (Register q : registers.subList(0, r.number)) {
                boolean apart = r.bank != 0 && q.bank == r.bank && q.digit != r.digit;
                if (r.offset == q.offset && !apart) {
                    fault(3, r.place);
                }
            }
        }
    }

    private void readRules(String tape) {
        int at = tape.lastIndexOf('}') + 1;
        for (String text : tape.substring(at).split("(?<=;)")) {
            if (text.isEmpty()) {
                return;
            }
            Rule rule = new Rule();
            rule.a = text.charAt(0);
            rule.sign = text.charAt(1);
            rule.b = text.charAt(2);
            rule.value = rule.sign == '&' ? Integer.parseInt(text.substring(4, text.length() - 1), 16) : 0;
            rules.add(rule);
            Field a = fields.get(rule.a);
            Field b = fields.get(rule.b);
            if (a == null || "rc".indexOf(a.access) >= 0) {
                fault(4, at);
            }
            boolean good = b != null && (rule.sign == '&' ? b.isKnown() && b.fits(rule.value) : "rc".indexOf(b.access) < 0);
            if (!good) {
                fault(4, at + 2);
            }
            at += text.length();
        }
    }

    void reset() {
        now = atReset();
        rulesBroken = 0;
        joined.clear();
    }

    private State atReset() {
        State s = new State();
        for (Field f : fields.values()) {
            s.values.put(f.name, f.atReset);
            s.kept.put(f.name, 0);
        }
        return s;
    }

    boolean isThere(State s, Register r) {
        return r.bank == 0 || s.values.get(r.bank) == r.digit;
    }

    Register at(int offset) {
        for (Register r : registers) {
            if (r.offset == offset && isThere(now, r)) {
                return r;
            }
        }
        return null;
    }

    /** Does a WRITE; the numbers of the rules that it breaks. */
    List<Integer> write(State s, Register r, int word) {
        Set<Character> written = new HashSet<>();
        for (Field f : r.fields) {
            int x = f.of(word);
            if (f.isKnown() ? x != s.values.get(f.name) : "tsp".indexOf(f.access) >= 0 && x != 0) {
                written.add(f.name);
            }
        }
        List<Integer> broken = new ArrayList<>();
        for (int k = 0; k < rules.size(); k++) {
            Rule rule = rules.get(k);
            boolean breaks;
            if (rule.sign == '<') {
                breaks = written.contains(rule.b) && latest(s, rule.a) < 0;
            } else if (rule.sign == '&') {
                breaks = written.contains(rule.a) && s.values.get(rule.b) != rule.value;
            } else {
                breaks = written.contains(rule.a) && waits(s, rule);
            }
            if (breaks) {
                broken.add(k);
            }
        }
        for (Field f : r.fields) {
            int x = f.of(word);
            int v = s.values.get(f.name);
            if (f.isKnown()) {
                s.values.put(f.name, x);
            } else if (f.access == 't') {
                s.values.put(f.name, v & ~x);
            } else if (f.access == 's') {
                s.values.put(f.name, v | x);
            } else if (f.access == 'p' && x != 0) {
                s.values.put(f.name, x);
                s.readsLeft.put(f.name, 2);
            }
        }
        s.written.add(written);
        s.operations.add(new int[] {1, r.offset, word});
        return broken;
    }

    private static int latest(State s, char name) {
        for (int i = s.written.size() - 1; i >= 0; i--) {
            if (s.written.get(i).contains(name)) {
                return i;
            }
        }
        return -1;
    }

    private static boolean waits(State s, Rule rule) {
        int a = latest(s, rule.a);
        return a >= 0 && latest(s, rule.b) < a;
    }

    int read(State s, Register r) {
        int word = 0;
        for (Field f : r.fields) {
            int v = s.values.get(f.name);
            if (f.access != 'o') {
                word += v << f.low;
            }
            if (f.access == 'c') {
                s.kept.merge(f.name, v, (x, y) -> x | y);
                s.values.put(f.name, 0);
            }
            if (f.access == 'p' && s.readsLeft.containsKey(f.name)) {
                int left = s.readsLeft.get(f.name) - 1;
                if (left == 0) {
                    s.values.put(f.name, 0);
                    s.readsLeft.remove(f.name);
                } else {
                    s.readsLeft.put(f.name, left);
                }
            }
        }
        s.operations.add(new int[] {0, r.offset, word});
        return word;
    }

    int busWrite(int offset, int v) {
        Register r = at(offset);
        if (r == null) {
            return -1;
        }
        List<Integer> broken = write(now, r, v & 0xFFFF);
        rulesBroken += broken.size();
        return broken.isEmpty() ? 0 : broken.get(0) + 1;
    }

    int busRead(int offset) {
        Register r = at(offset);
        return r == null ? -1 : read(now, r);
    }

    Field field(int f) {
        return f < 0 || f > 25 ? null : fields.get((char) ('A' + f));
    }

    boolean poke(int f, int v) {
        Field g = field(f);
        if (g == null || !g.fits(v) || "rct".indexOf(g.access) < 0) {
            return false;
        }
        now.values.put(g.name, v);
        return true;
    }

    boolean canPut(int f, int v) {
        Field g = field(f);
        return g != null && "rc".indexOf(g.access) < 0 && g.fits(v);
    }

    boolean canFetch(int f) {
        return field(f) != null && field(f).access != 'o';
    }

    /** The rule that a WRITE of these fields and values to a register breaks first, or -1. */
    private int tell(State s, Register r, Map<Character, Integer> told) {
        int word = 0;
        for (Field f : r.fields) {
            int own = f.isKnown() ? s.values.get(f.name) : 0;
            word |= told.getOrDefault(f.name, own) << f.low;
        }
        List<Integer> broken = write(s, r, word);
        return broken.isEmpty() ? -1 : broken.get(0);
    }

    private int reachAndTell(State s, Register r, Map<Character, Integer> told) {
        if (!isThere(s, r)) {
            int broken = tell(s, fields.get(r.bank).home, Collections.singletonMap(r.bank, r.digit));
            if (broken >= 0) {
                return broken;
            }
        }
        return told == null ? -1 : tell(s, r, told);
    }

    private int doPut(State s, int f, int v) {
        Field g = field(f);
        if (g.isKnown() && s.values.get(g.name) == v) {
            return -1;
        }
        return reachAndTell(s, g.home, Collections.singletonMap(g.name, v));
    }

    /** The rule that breaks first, or -1; the value goes to out[0]. */
    private int doFetch(State s, int f, int[] out) {
        Field g = field(f);
        if (g.access == 'w') {
            out[0] = s.values.get(g.name);
            return -1;
        }
        int broken = reachAndTell(s, g.home, null);
        if (broken < 0) {
            int before = s.kept.get(g.name);
            out[0] = g.of(read(s, g.home)) | before;
            s.kept.put(g.name, 0);
        }
        return broken;
    }

    private int take(State next) {
        int operations = next.operations.size() - now.operations.size();
        now = next;
        return operations;
    }

    int put(int f, int v) {
        if (!canPut(f, v) || !joined.isEmpty()) {
            return -1;
        }
        State next = now.copy();
        return doPut(next, f, v) >= 0 ? -2 : take(next);
    }

    int fetch(int f) {
        if (!canFetch(f)) {
            return Bench.INDEX_OUT;
        }
        State next = now.copy();
        int[] out = new int[1];
        if (!joined.isEmpty() || doFetch(next, f, out) >= 0) {
            return Bench.ILLEGAL_STATE;
        }
        now = next;
        return out[0];
    }

    int join(int f, int v) {
        if (!canPut(f, v) || joined.size() == 8) {
            return -1;
        }
        joined.add(new int[] {f, v});
        return joined.size();
    }

    int flush() {
        Set<Register> order = new LinkedHashSet<>();
        for (int[] put : joined) {
            order.add(field(put[0]).home);
        }
        State next = now.copy();
        for (Register r : order) {
            Map<Character, Integer> told = new TreeMap<>();
            boolean needed = false;
            for (int[] put : joined) {
                Field f = field(put[0]);
                if (f.home == r) {
                    told.merge(f.name, put[1], (old, v) -> f.isKnown() ? v : old | v);
                    needed |= !f.isKnown();
                }
            }
            for (Map.Entry<Character, Integer> e : told.entrySet()) {
                needed |= fields.get(e.getKey()).isKnown() && !next.values.get(e.getKey()).equals(e.getValue());
            }
            if (needed && reachAndTell(next, r, told) >= 0) {
                return -2;
            }
        }
        joined.clear();
        return take(next);
    }

    int step(int kind, int f, int v) {
        boolean good = kind == 0 && canPut(f, v) || kind == 1 && canFetch(f) || kind == 2 && v >= 0 && v <= 40 || kind == 3;
        if (!good || script.size() == 40) {
            return -1;
        }
        script.add(new int[] {kind, f, v});
        return script.size() - 1;
    }

    private String situation(int step, State s) {
        StringBuilder text = new StringBuilder(step < script.size() ? "" + step : "END");
        for (Field f : fields.values()) {
            if (f.isKnown()) {
                text.append(' ').append(s.values.get(f.name));
            }
        }
        for (Rule rule : rules) {
            if (rule.sign == '<') {
                text.append(latest(s, rule.a) >= 0 ? " was" : " not");
            } else if (rule.sign == '!') {
                text.append(waits(s, rule) ? " waits" : " free");
            }
        }
        return text.toString();
    }

    /** Depth first, where the program goes breadth first. */
    int check() {
        Set<String> met = new HashSet<>();
        List<Object[]> open = new ArrayList<>();
        int told = -1;
        foundRule = 0;
        met.add(situation(0, atReset()));
        open.add(new Object[] {0, atReset()});
        while (!open.isEmpty()) {
            Object[] one = open.remove(open.size() - 1);
            int at = (Integer) one[0];
            State s = ((State) one[1]).copy();
            if (at >= script.size()) {
                continue;
            }
            int[] step = script.get(at);
            int broken = step[0] == 0 ? doPut(s, step[1], step[2]) : step[0] == 1 ? doFetch(s, step[1], new int[1]) : -1;
            if (broken >= 0) {
                if (told < 0 || at < told || at == told && broken + 1 < foundRule) {
                    told = at;
                    foundRule = broken + 1;
                }
                continue;
            }
            int[] next = step[0] == 3 ? new int[] {99} : step[0] == 2 ? new int[] {at + 1, step[2]} : new int[] {at + 1};
            for (int n : next) {
                if (met.add(situation(n, s))) {
                    open.add(new Object[] {n, s});
                }
            }
            if (met.size() > 1000) {
                foundSituations = 1000;
                foundRule = 0;
                return -2;
            }
        }
        foundSituations = met.size();
        return told + 1;
    }

    int run(int choices) {
        if (!joined.isEmpty()) {
            return -1;
        }
        int at = 0;
        int bit = 0;
        int done = 0;
        while (at < script.size()) {
            int[] step = script.get(at);
            if (done == 300) {
                return -2;
            }
            done++;
            if (step[0] == 3) {
                return 0;
            }
            if (step[0] == 2) {
                at = (choices >> bit & 1) != 0 ? step[2] : at + 1;
                bit = (bit + 1) % 32;
                continue;
            }
            State next = now.copy();
            int broken = step[0] == 0 ? doPut(next, step[1], step[2]) : doFetch(next, step[1], new int[1]);
            if (broken >= 0) {
                return at + 1;
            }
            now = next;
            at++;
        }
        return 0;
    }

    int trace(int k, int what) {
        int n = now.operations.size();
        return k < 0 || k >= 64 || k >= n || what < 0 || what > 2 ? -1 : now.operations.get(n - 1 - k)[what];
    }

    int field(int f, int what) {
        Field g = field(f);
        if (g == null || what < 0 || what > 4) {
            return -1;
        }
        return new int[] {g.home.number, g.low, g.high - g.low + 1, now.values.get(g.name), now.kept.get(g.name)}[what];
    }

    int state(int what) {
        int[] all = {now.operations.size(), rulesBroken, joined.size(), script.size(), rules.size()};
        return what < 0 || what > 4 ? -1 : all[what];
    }
}
