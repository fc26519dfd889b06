import java.util.Random;

/** Long random runs of calls, always the same ones: TraitHouse must answer as the plain house does. */
public final class RandomRunsTest {
    private static final int RUNS = 600;
    /** An object is used for 512 calls at most, and a step takes 15 of them at most. */
    private static final int CALLS = 512 - 15;
    private static final Check CHECK = new Check();

    private final Random random;
    private final String run;
    private final int span;
    private final int[] weights = new int[27];
    private final TraitHouse x = new TraitHouse();
    private final PlainHouse y = new PlainHouse();
    private int calls;

    private RandomRunsTest(int seed) {
        random = new Random(seed);
        run = "run " + seed + ": ";
        span = new int[] {5, 30, 1000, 100000}[seed % 4];
        for (int i = 0; i < weights.length; i++) {
            weights[i] = random.nextInt(4) == 0 ? 0 : 1 + random.nextInt(10);
        }
        weights[1] = seed % 5 == 0 ? 300 : 20 + random.nextInt(30);
        weights[4] = seed % 3 == 0 ? 5 : random.nextInt(2);
        weights[5] = 10;
    }

    public static void main(String[] args) {
        for (int seed = 0; seed < RUNS; seed++) {
            RandomRunsTest test = new RandomRunsTest(seed);
            while (test.calls < CALLS) {
                test.step();
            }
        }
        CHECK.finish();
    }

    private void due(String call, long got, long want) {
        calls++;
        CHECK.due(run + call, got, want);
    }

    private int pick(int... choices) {
        return choices[random.nextInt(choices.length)];
    }

    private int odd() {
        return pick(-1, Integer.MIN_VALUE, Integer.MAX_VALUE, 20, 6, 10, 100001, -7, 1 << 20, 2000, 400);
    }

    private int person() {
        return random.nextInt(40) == 0 ? odd() : random.nextInt(random.nextBoolean() ? 4 : 20);
    }

    private int moment() {
        return random.nextInt(40) == 0 ? odd() : random.nextInt(10) == 0 ? pick(0, 100000) : random.nextInt(span + 1);
    }

    private int trait() {
        return random.nextInt(30) == 0 ? odd() : random.nextInt(Math.max(1, y.count(4)) + random.nextInt(8) / 7);
    }

    private int what() {
        return random.nextInt(20) == 0 ? odd() : random.nextInt(2);
    }

    private int small() {
        return random.nextInt(30) == 0 ? odd() : random.nextInt(4) == 0 ? pick(1000000, -1000000, 1000001) : random.nextInt(41) - 20;
    }

    private void step() {
        int sum = 0;
        for (int each : weights) sum += each;
        int left = random.nextInt(sum);
        int kind = 0;
        while (left >= weights[kind]) left -= weights[kind++];
        if (kind < 11) makeCall(kind);
        else if (kind < 19) keepCall(kind);
        else lookCall(kind);
    }

    private void makeCall(int kind) {
        int a = person(), b = person(), m = moment(), k = random.nextBoolean() ? m : moment();
        switch (kind) {
            case 0: {
                int to = random.nextInt(8) == 0 ? moment() : y.count(0) + random.nextInt(1 + span / 10);
                due("now(" + to + ")", x.now(to), y.now(to));
                break;
            }
            case 1: {
                int stream = random.nextInt(40) == 0 ? odd() : random.nextInt(random.nextBoolean() ? 2 : 6);
                int value = small();
                due("row", x.row(a, stream, m, k, value), y.row(a, stream, m, k, value));
                break;
            }
            case 2: due("merge " + a + " " + b + " " + m, x.merge(a, b, m), y.merge(a, b, m)); break;
            case 3: due("leads", x.leads(a, m), y.leads(a, m)); break;
            case 4: due("erase " + a, x.erase(a), y.erase(a)); break;
            case 5: text(); break;
            case 6: due("fault", x.fault(), y.fault()); break;
            case 7: {
                int n = random.nextInt(210) - 5;
                due("end", x.end(n), y.end(n));
                break;
            }
            case 8: {
                int c = random.nextInt(), d = random.nextInt();
                due("feed", x.feed(c, d, a, m, k), y.feed(c, d, a, m, k));
                break;
            }
            default: {
                int t = trait();
                due("value(" + t + ", " + a + ", " + m + ", " + k + ")", x.value(t, a, m, k), y.value(t, a, m, k));
            }
        }
    }

    private void keepCall(int kind) {
        int t = trait(), p = person(), m = moment();
        switch (kind) {
            case 11: {
                long from = small(), to = random.nextInt(10) == 0 ? small() : from + random.nextInt(50);
                due("law", x.law(t, from, to), y.law(t, from, to));
                break;
            }
            case 12: due("limit", x.limit(t, m), y.limit(t, m)); break;
            case 13: due("freshen", x.freshen(t), y.freshen(t)); break;
            case 14: due("kept", x.kept(t, p), y.kept(t, p)); break;
            case 15: {
                int w = what();
                due("age", x.age(t, p, w), y.age(t, p, w));
                break;
            }
            case 16: due("held", x.held(t), y.held(t)); break;
            case 17: {
                int b = random.nextInt(6) == 0 ? moment() : y.count(0) - random.nextInt(3);
                int d = random.nextInt(10) == 0 ? odd() : 1 + random.nextInt(1 + span / 10);
                int a = random.nextInt(6) == 0 ? moment() : (int) Math.max(0, b - (long) d * random.nextInt(42));
                due("fill " + a + " " + b + " " + d, x.fill(t, a, b, d), y.fill(t, a, b, d));
                break;
            }
            default: {
                int w = what();
                due("history", x.history(t, p, m), y.history(t, p, m));
                due("told", x.told(t, p, m, w), y.told(t, p, m, w));
            }
        }
    }

    private void lookCall(int kind) {
        int t = trait(), p = person(), w = what();
        int model = random.nextInt(30) == 0 ? odd() : random.nextInt(Math.max(1, y.count(5)) + random.nextInt(8) / 7);
        switch (kind) {
            case 19: {
                int bits = random.nextInt(10) == 0 ? random.nextInt() : random.nextInt(1 << y.count(4));
                due("model", x.model(bits), y.model(bits));
                break;
            }
            case 20: due("needed", x.needed(model), y.needed(model)); break;
            case 21: due("hung", x.hung(t), y.hung(t)); break;
            case 22: due("misses", x.misses(model, p), y.misses(model, p)); break;
            case 23: {
                int one = moment(), other = moment();
                long a = small(), b = random.nextInt(9) == 0 ? small() : a + random.nextInt(15), c = b + random.nextInt(15);
                due("shift upper", x.shift(t, one, other, a, b, c, 0), y.shift(t, one, other, a, b, c, 0));
                due("shift lower", x.shift(t, one, other, a, b, c, 1), y.shift(t, one, other, a, b, c, 1));
                due("shift what", x.shift(t, one, other, a, b, c, w), y.shift(t, one, other, a, b, c, w));
                break;
            }
            case 24: {
                int n = random.nextInt(10) - 1;
                due("count(" + n + ")", x.count(n), y.count(n));
                break;
            }
            default: due("status", x.status(), y.status());
        }
    }

    /** Feeds a text, most often a sound one, and reads it. */
    private void text() {
        StringBuilder text = new StringBuilder();
        sum(text, random.nextInt(3));
        if (random.nextInt(3) == 0) spoil(text);
        text.setLength(Math.min(text.length(), 200));
        if (random.nextInt(8) != 0) due("end(0)", x.end(0), y.end(0));
        int before = y.count(7);
        for (int i = 0; i < text.length(); i += 20) {
            int[] n = new int[5];
            for (int j = 0; j < 20; j++) {
                n[j / 4] = n[j / 4] << 8 | (i + j < text.length() ? text.charAt(i + j) & 255 : 32);
            }
            due("feed", x.feed(n[0], n[1], n[2], n[3], n[4]), y.feed(n));
        }
        if (random.nextInt(4) != 0) due("end", x.end(before + text.length()), y.end(before + text.length()));
        due("trait '" + text + "'", x.trait(), y.trait());
        due("fault '" + text + "'", x.fault(), y.fault());
        due("status", x.status(), y.status());
    }

    private void spoil(StringBuilder text) {
        int place = random.nextInt(text.length() + 1);
        String[] bits = {" ", "(", ")", "+", "-", "*", "/", "else", "ahead", "to", "from", "1000001", "x", "7", "trait", "\u00ff", "\0", "last 6", "A"};
        if (random.nextInt(3) == 0) text.setLength(place);
        else if (random.nextBoolean() && place < text.length()) text.deleteCharAt(place);
        else text.insert(place, bits[random.nextInt(bits.length)]);
    }

    private void blank(StringBuilder text) {
        if (random.nextInt(3) == 0) text.append(" ".repeat(1 + random.nextInt(2)));
    }

    private void sum(StringBuilder text, int depth) {
        part(text, depth);
        for (int i = random.nextInt(3); i > 0; i--) {
            blank(text);
            text.append("+-*/".charAt(random.nextInt(4)));
            blank(text);
            part(text, depth);
        }
    }

    private void part(StringBuilder text, int depth) {
        atom(text, depth);
        if (random.nextInt(4) == 0) {
            blank(text);
            text.append("else");
            blank(text);
            text.append(random.nextInt(5));
        }
        blank(text);
    }

    private void atom(StringBuilder text, int depth) {
        int kind = random.nextInt(depth > 0 ? 7 : 5);
        if (kind == 0) {
            text.append(pick(0, 1, 2, 3, 10, 1000000, random.nextInt(1000001)));
        } else if (kind == 1 && y.count(4) > 0) {
            text.append("trait");
            blank(text);
            text.append(random.nextInt(y.count(4) + random.nextInt(20) / 19));
        } else if (kind == 2) {
            text.append(random.nextBoolean() ? "last" : "age");
            blank(text);
            text.append(random.nextInt(random.nextInt(20) == 0 ? 8 : 2));
        } else if (kind < 5) {
            int from = random.nextInt(span + 1);
            text.append(new String[] {"count", "sum", "least", "most"}[random.nextInt(4)]);
            blank(text);
            text.append(random.nextInt(2));
            blank(text);
            text.append("from").append(from);
            blank(text);
            text.append("to");
            blank(text);
            text.append(random.nextInt(20) == 0 ? from + 1 : random.nextInt(3) == 0 ? random.nextInt(from + 1) : 0);
            if (random.nextInt(40) == 0) text.append(" ahead");
        } else {
            text.append('(');
            sum(text, depth - 1);
            text.append(')');
        }
    }
}
