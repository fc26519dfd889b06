/** Promises 21 to 24: model, needed, hung, misses. */
public final class ModelTest {
    private static final Check CHECK = new Check();

    public static void main(String[] args) {
        models();
        allBits();
        needs();
        misses();
        CHECK.finish();
    }

    private static void due(String call, long got, long want) {
        CHECK.due(call, got, want);
    }

    private static void models() {
        TraitHouse x = new TraitHouse();
        due("no traits", x.model(1), -1);
        due("no bits", x.model(0), 0);
        Check.trait(x, "1");
        due("bit 0", x.model(1), 1);
        due("bit 1", x.model(2), -1);
        due("bits 0 and 1", x.model(3), -1);
        due("bit 31", x.model(Integer.MIN_VALUE), -1);
        due("all bits", x.model(-1), -1);
        for (int i = 2; i < 10; i++) {
            due("model " + i, x.model(i % 2), i);
        }
        due("no room", x.model(1), -5);
        due("status", x.status(), -5);
        due("bits ahead of room", x.model(2), -1);
        due("models", x.count(5), 10);
        due("hung", x.hung(0), 5);
    }

    private static void allBits() {
        TraitHouse x = new TraitHouse();
        for (int i = 0; i < 20; i++) {
            Check.trait(x, "1");
        }
        due("twenty bits", x.model((1 << 20) - 1), 0);
        due("bit 20", x.model(1 << 20), -1);
        due("needed", x.needed(0), (1 << 20) - 1);
        due("misses", x.misses(0, 0), 20);
    }

    private static void needs() {
        TraitHouse x = Check.house("1", "2", "trait 0", "3+trait 2*(trait 1 else 5)", "trait 2 - trait 2", "7");
        due("plain", x.model(1), 0);
        due("one step", x.model(4), 1);
        due("two steps", x.model(8), 2);
        due("two at once", x.model(16 + 32), 3);
        due("none", x.model(0), 4);
        due("needed 0", x.needed(0), 1);
        due("needed 1", x.needed(1), 4 + 1);
        due("needed 2", x.needed(2), 8 + 4 + 2 + 1);
        due("needed 3", x.needed(3), 32 + 16 + 4 + 1);
        due("needed 4", x.needed(4), 0);
        due("needed 5", x.needed(5), 0);
        due("needed -1", x.needed(-1), 0);
        due("needed 10", x.needed(10), 0);
        due("hung 0", x.hung(0), 4);
        due("hung 1", x.hung(1), 1);
        due("hung 2", x.hung(2), 3);
        due("hung 3", x.hung(3), 1);
        due("hung 5", x.hung(5), 1);
        due("hung 6", x.hung(6), TraitHouse.NONE);
        due("hung -1", x.hung(-1), TraitHouse.NONE);
        Check.trait(x, "trait 0");
        due("a later trait is not needed", x.needed(0), 1);
        due("nor hung", x.hung(6), 0);
    }

    private static void misses() {
        TraitHouse x = Check.house("last 0", "1", "trait 0+trait 1", "9");
        x.row(0, 0, 0, 0, 5);
        x.model(4);
        x.model(0);
        due("none there", x.misses(0, 0), 3);
        x.freshen(0);
        due("one there", x.misses(0, 0), 2);
        due("one there, but LACK", x.misses(0, 1), 3);
        x.freshen(1);
        x.freshen(2);
        due("all there", x.misses(0, 0), 0);
        due("two LACK", x.misses(0, 1), 2);
        x.limit(1, 3);
        x.now(3);
        due("not stale", x.misses(0, 0), 0);
        x.now(4);
        due("one stale", x.misses(0, 0), 1);
        x.limit(0, 0);
        due("LACK and stale is one", x.misses(0, 1), 3);
        x.freshen(1);
        due("fresh again", x.misses(0, 0), 1);
        due("no needs", x.misses(1, 0), 0);
        due("model 2", x.misses(2, 0), TraitHouse.NONE);
        due("model -1", x.misses(-1, 0), TraitHouse.NONE);
        due("person 20", x.misses(0, 20), TraitHouse.NONE);
        due("person -1", x.misses(0, -1), TraitHouse.NONE);
        x.erase(0);
        due("erased", x.misses(0, 0), 3);
    }
}
