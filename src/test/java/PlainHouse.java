import java.math.BigInteger;
import java.util.ArrayList;
import java.util.HashMap;
import java.util.HashSet;
import java.util.List;
import java.util.Map;
import java.util.Set;

/** The document once more, slow and with the whole library: what TraitHouse answers is held against it. */
final class PlainHouse {
    private static final long LACK = -9000000000000000000L;
    private static final BigInteger WIDEST = BigInteger.valueOf(1000000000000L);

    private record Row(int person, int stream, int moment, int known, int value) { }

    private record Merge(int a, int b, int known) { }

    private record Kept(long value, int moment) { }

    private record Place(int trait, int person, int moment, boolean filled, long value) { }

    private record Token(String text, int place) { }

    private int now;
    private int rowsTold;
    private final List<Row> rows = new ArrayList<>();
    private final List<Merge> merges = new ArrayList<>();
    private final Set<Integer> erased = new HashSet<>();
    private final List<Integer> tape = new ArrayList<>();
    private final List<List<Token>> traits = new ArrayList<>();
    private final List<long[]> laws = new ArrayList<>();
    private final List<Integer> limits = new ArrayList<>();
    private final List<Integer> heldCounts = new ArrayList<>();
    private final Map<Integer, Kept> kept = new HashMap<>();
    private final List<Place> places = new ArrayList<>();
    private final List<Set<Integer>> models = new ArrayList<>();
    private int fault = -1;
    private int status;

    // The reader's state, then the worker's: one walk over the tokens serves both.
    private List<Token> tokens;
    private int at;
    private int failed;
    private boolean leaks;
    private boolean working;
    private Set<Integer> reads;
    private int person;
    private int moment;
    private int known;
    private Map<Integer, BigInteger> memo;

    private static boolean moment(int m) {
        return 0 <= m && m <= 100000;
    }

    private static boolean person(int p) {
        return 0 <= p && p < 20;
    }

    private boolean there(int trait) {
        return 0 <= trait && trait < traits.size();
    }

    private int say(int answer) {
        status = answer < 0 ? answer : 0;
        return answer;
    }

    int now(int m) {
        if (!moment(m) || m < now) return say(-1);
        now = m;
        return say(0);
    }

    int row(int p, int stream, int m, int k, int value) {
        if (stream < 0 || stream > 5 || !moment(m) || !moment(k) || k < m || Math.abs((long) value) > 1000000) return say(-1);
        if (!person(p)) return say(-2);
        if (rows.size() == 400) return say(-5);
        if (erased.contains(p)) return say(-6);
        rows.add(new Row(p, stream, m, k, value));
        return say(rowsTold++);
    }

    private int follow(int p, int k) {
        for (Merge each : merges) {
            if (each.a == p && each.known <= k) return follow(each.b, k);
        }
        return p;
    }

    int merge(int a, int b, int k) {
        if (!moment(k)) return say(-1);
        if (!person(a) || !person(b)) return say(-2);
        if (merges.stream().anyMatch(each -> each.a == a) || follow(b, Integer.MAX_VALUE) == a) return say(-4);
        merges.add(new Merge(a, b, k));
        return say(merges.size());
    }

    int leads(int p, int k) {
        return person(p) && moment(k) ? follow(p, k) : -1;
    }

    int erase(int p) {
        if (!person(p)) return say(-2);
        if (!erased.add(p)) return say(-6);
        int before = rows.size();
        rows.removeIf(each -> each.person == p);
        kept.keySet().removeIf(key -> key % 20 == p);
        places.replaceAll(each -> each != null && each.person == p ? null : each);
        return say(before - rows.size());
    }

    int feed(int... numbers) {
        if (tape.size() + 20 > 200) return -1;
        for (int number : numbers) {
            for (int shift = 24; shift >= 0; shift -= 8) tape.add(number >>> shift & 255);
        }
        return tape.size();
    }

    int end(int n) {
        if (n < 0 || n > tape.size()) return -1;
        tape.subList(n, tape.size()).clear();
        return n;
    }

    private static int sort(int b) {
        return b >= 'a' && b <= 'z' ? 1 : b >= '0' && b <= '9' ? 2 : b == 32 ? 3 : 4;
    }

    private static List<Token> split(List<Integer> bytes) {
        List<Token> found = new ArrayList<>();
        int i = 0;
        while (i < bytes.size()) {
            int start = i;
            int sort = sort(bytes.get(i++));
            while (sort < 3 && i < bytes.size() && sort(bytes.get(i)) == sort) i++;
            StringBuilder text = new StringBuilder();
            for (int b : bytes.subList(start, i)) text.append((char) b);
            if (sort != 3) found.add(new Token(text.toString(), start));
        }
        found.add(new Token("", bytes.size()));
        return found;
    }

    int trait() {
        List<Token> read = split(tape);
        tape.clear();
        if (traits.size() == 20) return say(-5);
        tokens = read;
        at = 0;
        failed = -1;
        leaks = false;
        working = false;
        reads = new HashSet<>();
        sum(0);
        if (failed < 0 && !token().isEmpty()) failed = tokens.get(at).place;
        fault = failed;
        if (failed >= 0) return say(-6);
        if (leaks) return say(-3);
        traits.add(read);
        laws.add(new long[] {Long.MIN_VALUE, Long.MAX_VALUE});
        limits.add(100000);
        heldCounts.add(0);
        return say(traits.size() - 1);
    }

    int fault() {
        return fault;
    }

    private String token() {
        return failed < 0 ? tokens.get(at).text : "";
    }

    private boolean on(String text) {
        if (failed >= 0 || !token().equals(text)) return false;
        at++;
        return true;
    }

    private void must(String text) {
        if (!on(text)) fail();
    }

    private void fail() {
        if (failed < 0) failed = tokens.get(at).place;
    }

    private int number(int most) {
        String text = token();
        if (!text.matches("[0-9]+") || new BigInteger(text).compareTo(BigInteger.valueOf(most)) > 0) {
            fail();
            return 0;
        }
        at++;
        return new BigInteger(text).intValue();
    }

    private static BigInteger wide(BigInteger value) {
        return value == null || value.abs().compareTo(WIDEST) > 0 ? null : value;
    }

    private static BigInteger join(String sign, BigInteger a, BigInteger b) {
        if (a == null || b == null) return null;
        switch (sign) {
            case "+": return wide(a.add(b));
            case "-": return wide(a.subtract(b));
            case "*": return wide(a.multiply(b));
            default: return b.signum() == 0 ? null : wide(a.divide(b));
        }
    }

    private BigInteger sum(int depth) {
        BigInteger value = term(depth);
        while (token().equals("+") || token().equals("-")) {
            String sign = token();
            at++;
            value = join(sign, value, term(depth));
        }
        return value;
    }

    private BigInteger term(int depth) {
        BigInteger value = part(depth);
        while (token().equals("*") || token().equals("/")) {
            String sign = token();
            at++;
            value = join(sign, value, part(depth));
        }
        return value;
    }

    private BigInteger part(int depth) {
        BigInteger value = atom(depth);
        if (!on("else")) return value;
        int other = number(1000000);
        return value == null ? BigInteger.valueOf(other) : value;
    }

    private BigInteger atom(int depth) {
        String first = token();
        if (first.matches("[0-9]+")) return BigInteger.valueOf(number(1000000));
        if (first.equals("(") && depth < 8) {
            at++;
            BigInteger value = sum(depth + 1);
            must(")");
            return value;
        }
        if (on("trait")) {
            int trait = number(working ? 19 : traits.size() - 1);
            if (!working) {
                if (failed < 0) reads.add(trait);
                return null;
            }
            return memo.get(trait);
        }
        if (on("last") || on("age")) {
            int stream = number(5);
            return working ? latest(first, stream) : null;
        }
        if (on("count") || on("sum") || on("least") || on("most")) {
            int stream = number(5);
            must("from");
            int from = number(1000000);
            must("to");
            int to = number(from);
            if (on("ahead")) leaks = true;
            return working ? window(first, stream, from, to) : null;
        }
        fail();
        return null;
    }

    private List<Row> seen(int stream) {
        List<Row> found = new ArrayList<>();
        for (Row each : rows) {
            if (each.stream == stream && each.moment <= moment && each.known <= known
                    && follow(each.person, known) == follow(person, known)) found.add(each);
        }
        return found;
    }

    private BigInteger latest(String word, int stream) {
        Row best = null;
        for (Row each : seen(stream)) {
            if (best == null || each.moment >= best.moment) best = each;
        }
        if (best == null) return null;
        return BigInteger.valueOf(word.equals("last") ? best.value : moment - best.moment);
    }

    private BigInteger window(String word, int stream, int from, int to) {
        List<Row> within = seen(stream);
        within.removeIf(each -> each.moment < moment - from || each.moment > moment - to);
        if (word.equals("count")) return BigInteger.valueOf(within.size());
        if (within.isEmpty()) return null;
        switch (word) {
            case "sum": return BigInteger.valueOf(within.stream().mapToLong(Row::value).sum());
            case "least": return BigInteger.valueOf(within.stream().mapToLong(Row::value).min().getAsLong());
            default: return BigInteger.valueOf(within.stream().mapToLong(Row::value).max().getAsLong());
        }
    }

    private long make(int trait, int p, int m, int k) {
        person = p;
        moment = m;
        known = k;
        working = true;
        failed = -1;
        memo = new HashMap<>();
        for (int i = 0; i <= trait; i++) {
            tokens = traits.get(i);
            at = 0;
            memo.put(i, sum(0));
        }
        BigInteger value = memo.get(trait);
        return value == null ? LACK : value.longValue();
    }

    long value(int trait, int p, int m, int k) {
        return there(trait) && person(p) && moment(m) && moment(k) ? make(trait, p, m, k) : LACK;
    }

    int law(int trait, long from, long to) {
        if (from > to) return say(-1);
        if (!there(trait)) return say(-2);
        laws.set(trait, new long[] {from, to});
        return say(0);
    }

    int limit(int trait, int n) {
        if (n < 0 || n > 100000) return say(-1);
        if (!there(trait)) return say(-2);
        return say(limits.set(trait, n));
    }

    int freshen(int trait) {
        if (!there(trait)) return say(-2);
        int held = 0;
        for (int p = 0; p < 20; p++) {
            if (erased.contains(p)) continue;
            long made = make(trait, p, now, now);
            if (made != LACK && (made < laws.get(trait)[0] || made > laws.get(trait)[1])) {
                held++;
                continue;
            }
            kept.put(trait * 20 + p, new Kept(made, now));
            if (places.size() < 2000) places.add(new Place(trait, p, now, false, made));
        }
        heldCounts.set(trait, heldCounts.get(trait) + held);
        return say(held);
    }

    private Kept keptOf(int trait, int p) {
        return there(trait) && person(p) ? kept.get(trait * 20 + p) : null;
    }

    long kept(int trait, int p) {
        Kept found = keptOf(trait, p);
        return found == null ? LACK : found.value;
    }

    int age(int trait, int p, int what) {
        Kept found = keptOf(trait, p);
        if (found == null || what < 0 || what > 1) return -1;
        return what == 0 ? found.moment : now - found.moment > limits.get(trait) ? 1 : 0;
    }

    int held(int trait) {
        return there(trait) ? heldCounts.get(trait) : -1;
    }

    int fill(int trait, int a, int b, int d) {
        if (!moment(a) || !moment(b) || b > now || a > b || d < 1) return say(-1);
        List<Integer> moments = new ArrayList<>();
        for (long m = a; m <= b; m += d) moments.add((int) m);
        if (moments.size() > 40) return say(-1);
        if (!there(trait)) return say(-2);
        List<Place> more = new ArrayList<>();
        for (int m : moments) {
            for (int p = 0; p < 20; p++) {
                if (!erased.contains(p)) more.add(new Place(trait, p, m, true, make(trait, p, m, m)));
            }
        }
        if (places.size() + more.size() > 2000) return say(-5);
        places.addAll(more);
        return say(more.size());
    }

    private Place find(int trait, int p, int m) {
        if (!there(trait) || !person(p) || !moment(m)) return null;
        Place best = null;
        for (Place each : places) {
            if (each != null && each.trait == trait && each.person == p && each.moment <= m
                    && (best == null || best.moment <= each.moment)) best = each;
        }
        return best;
    }

    long history(int trait, int p, int m) {
        Place found = find(trait, p, m);
        return found == null ? LACK : found.value;
    }

    int told(int trait, int p, int m, int what) {
        Place found = find(trait, p, m);
        if (found == null || what < 0 || what > 1) return -1;
        return what == 0 ? found.moment : found.filled ? 1 : 0;
    }

    private Set<Integer> needs(Set<Integer> wanted) {
        Set<Integer> all = new HashSet<>(wanted);
        for (int i = traits.size() - 1; i >= 0; i--) {
            List<Token> text = traits.get(i);
            for (int j = 0; all.contains(i) && j < text.size(); j++) {
                if (text.get(j).text.equals("trait")) all.add(Integer.valueOf(text.get(j + 1).text));
            }
        }
        return all;
    }

    int model(int bits) {
        Set<Integer> wanted = new HashSet<>();
        for (int i = 0; i < 32; i++) {
            if ((bits & 1 << i) != 0) wanted.add(i);
        }
        if (wanted.stream().anyMatch(each -> each >= traits.size())) return say(-1);
        if (models.size() == 10) return say(-5);
        models.add(wanted);
        return say(models.size() - 1);
    }

    int needed(int model) {
        if (model < 0 || model >= models.size()) return 0;
        return needs(models.get(model)).stream().mapToInt(each -> 1 << each).sum();
    }

    int hung(int trait) {
        if (!there(trait)) return -1;
        return (int) models.stream().filter(each -> needs(each).contains(trait)).count();
    }

    int misses(int model, int p) {
        if (model < 0 || model >= models.size() || !person(p)) return -1;
        return (int) needs(models.get(model)).stream()
                .filter(each -> kept(each, p) == LACK || age(each, p, 1) != 0).count();
    }

    long shift(int trait, int one, int other, long a, long b, long c, int what) {
        if (what < 0 || what > 1 || !moment(one) || !moment(other) || a > b || b > c) return -1;
        if (!there(trait)) return -2;
        BigInteger[] p = heaps(trait, one, a, b, c);
        BigInteger[] q = heaps(trait, other, a, b, c);
        if (p[4].signum() == 0 || q[4].signum() == 0) return -6;
        BigInteger upper = BigInteger.ZERO;
        for (int i = 0; i < 4; i++) {
            upper = upper.add(p[i].multiply(q[4]).subtract(q[i].multiply(p[4])).max(BigInteger.ZERO));
        }
        BigInteger lower = p[4].multiply(q[4]);
        return (what == 0 ? upper : lower).divide(upper.gcd(lower)).longValue();
    }

    private BigInteger[] heaps(int trait, int m, long a, long b, long c) {
        int[] heaps = new int[5];
        for (int p = 0; p < 20; p++) {
            long taught = make(trait, p, m, m);
            if (erased.contains(p) || taught == LACK) continue;
            heaps[4]++;
            if (taught < a) heaps[0]++;
            else if (taught < b) heaps[1]++;
            else if (taught < c) heaps[2]++;
            else heaps[3]++;
        }
        BigInteger[] wide = new BigInteger[5];
        for (int i = 0; i < 5; i++) wide[i] = BigInteger.valueOf(heaps[i]);
        return wide;
    }

    int count(int what) {
        int[] all = {now, rows.size(), merges.size(), erased.size(), traits.size(), models.size(), places.size(), tape.size()};
        return what < 0 || what > 7 ? -1 : all[what];
    }

    int status() {
        return status;
    }
}
