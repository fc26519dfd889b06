import java.util.Random;

/** No call throws and every call ends, whatever its numbers are and however many calls went ahead of it. */
public final class StormTest {
    private static final Check CHECK = new Check();
    private static final int OBJECTS = 300;
    private static final int CALLS = 3000;
    private static final int[] EDGES = {
        Integer.MIN_VALUE, Integer.MIN_VALUE + 1, -1000001, -1000000, -2, -1, 0, 1, 2, 4, 5, 6, 7, 8, 9, 10, 19, 20, 21, 31, 32, 40,
        41, 181, 199, 200, 201, 399, 400, 2000, 99999, 100000, 100001, 1000000, 1000001, Integer.MAX_VALUE - 1, Integer.MAX_VALUE,
    };
    private static final long[] WIDE_EDGES = {
        Long.MIN_VALUE, TraitHouse.LACK - 1, TraitHouse.LACK, TraitHouse.LACK + 1, -1000000000001L, -1000000000000L, -1, 0, 1,
        1000000000000L, 1000000000001L, Long.MAX_VALUE,
    };
    private static final String[] WORDS = {
        "trait", "last", "age", "count", "sum", "least", "most", "from", "to", "else", "ahead", "(", ")", "+", "-", "*", "/", " ", "0",
        "1", "5", "6", "19", "20", "1000000", "1000001", "99999999999999999999", "x", "?", "\0", "\u00ff",
        "sum 0 from 9 to 0", "last 1 else 3", "trait 0", "1000000*1000000",
    };

    private final Random random;
    private final TraitHouse x = new TraitHouse();

    private StormTest(int seed) {
        random = new Random(seed);
    }

    public static void main(String[] args) {
        for (int seed = 0; seed < OBJECTS; seed++) {
            StormTest storm = new StormTest(seed);
            for (int call = 0; call < CALLS; call++) {
                String thrown = storm.step();
                CHECK.due("object " + seed + ", call " + call + thrown, thrown.isEmpty() ? 0 : 1, 0);
            }
        }
        CHECK.finish();
    }

    private String step() {
        try {
            if (random.nextInt(6) == 0) {
                text();
            } else {
                call(random.nextInt(26));
            }
            return "";
        } catch (RuntimeException | Error thrown) {
            return ": " + thrown;
        }
    }

    private int any() {
        int kind = random.nextInt(8);
        return kind == 0 ? random.nextInt() : kind < 4 ? EDGES[random.nextInt(EDGES.length)] : random.nextInt(kind < 7 ? 6 : 100);
    }

    private long wide() {
        return random.nextInt(3) == 0 ? random.nextLong() : WIDE_EDGES[random.nextInt(WIDE_EDGES.length)];
    }

    private void text() {
        StringBuilder text = new StringBuilder();
        for (int i = random.nextInt(30); i >= 0; i--) {
            text.append(WORDS[random.nextInt(WORDS.length)]);
        }
        text.setLength(Math.min(200, text.length()));
        Check.trait(x, random.nextInt(3) == 0 ? WORDS[WORDS.length - 1 - random.nextInt(4)] : text.toString());
    }

    private void call(int which) {
        switch (which) {
            case 0: x.now(any()); break;
            case 1: x.row(any(), any(), any(), any(), any()); break;
            case 2: x.merge(any(), any(), any()); break;
            case 3: x.leads(any(), any()); break;
            case 4: x.erase(random.nextInt(20) == 0 ? any() : -1); break;
            case 5: x.feed(any(), any(), any(), any(), any()); break;
            case 6: x.end(any()); break;
            case 7: x.trait(); break;
            case 8: x.fault(); break;
            case 9: x.value(any(), any(), any(), any()); break;
            case 10: x.law(any(), wide(), wide()); break;
            case 11: x.limit(any(), any()); break;
            case 12: x.freshen(any()); break;
            case 13: x.kept(any(), any()); break;
            case 14: x.age(any(), any(), any()); break;
            case 15: x.held(any()); break;
            case 16: x.fill(any(), any(), any(), any()); break;
            case 17: x.history(any(), any(), any()); break;
            case 18: x.told(any(), any(), any(), any()); break;
            case 19: x.model(any()); break;
            case 20: x.needed(any()); break;
            case 21: x.hung(any()); break;
            case 22: x.misses(any(), any()); break;
            case 23: x.shift(any(), any(), any(), wide(), wide(), wide(), random.nextInt(2)); break;
            case 24: x.count(any()); break;
            default: x.status();
        }
    }
}
