/** Promises 26 and 27: count, status. */
public final class CountTest {
    private static final Check CHECK = new Check();

    public static void main(String[] args) {
        counts();
        statuses();
        callsThatLeaveIt();
        CHECK.finish();
    }

    private static void due(String call, long got, long want) {
        CHECK.due(call, got, want);
    }

    private static void counts() {
        TraitHouse x = Check.house("1", "2");
        x.now(6);
        x.row(0, 0, 0, 0, 0);
        x.row(1, 0, 0, 0, 0);
        x.row(1, 0, 0, 0, 0);
        x.merge(0, 1, 0);
        x.erase(0);
        x.model(3);
        x.freshen(0);
        x.feed(0, 0, 0, 0, 0);
        x.end(13);
        int[] want = {6, 2, 1, 1, 2, 1, 19, 13};
        for (int what = 0; what < want.length; what++) {
            due("count(" + what + ")", x.count(what), want[what]);
        }
        due("count(8)", x.count(8), TraitHouse.NONE);
        due("count(-1)", x.count(-1), TraitHouse.NONE);
        due("count(most)", x.count(Integer.MAX_VALUE), TraitHouse.NONE);
    }

    private static void pair(TraitHouse x, String call, int got, int want) {
        due(call, got, want);
        due("status after " + call, x.status(), Math.min(want, 0));
    }

    private static void statuses() {
        TraitHouse x = new TraitHouse();
        due("ahead of any", x.status(), 0);
        pair(x, "now(-1)", x.now(-1), -1);
        pair(x, "now(1)", x.now(1), 0);
        pair(x, "row, no person", x.row(20, 0, 0, 0, 0), -2);
        pair(x, "row", x.row(0, 0, 0, 0, 0), 0);
        pair(x, "merge, itself", x.merge(0, 0, 0), -4);
        pair(x, "merge", x.merge(0, 1, 0), 1);
        pair(x, "erase, no person", x.erase(20), -2);
        pair(x, "erase", x.erase(0), 1);
        pair(x, "erase again", x.erase(0), -6);
        pair(x, "trait", Check.trait(x, "1"), 0);
        pair(x, "trait, a fault", Check.trait(x, "x"), -6);
        pair(x, "law", x.law(0, 0, 0), 0);
        pair(x, "law, from above to", x.law(0, 1, 0), -1);
        pair(x, "limit", x.limit(0, 5), 100000);
        pair(x, "limit, no trait", x.limit(1, 5), -2);
        pair(x, "freshen", x.freshen(0), 19);
        pair(x, "freshen, no trait", x.freshen(1), -2);
        pair(x, "fill", x.fill(0, 0, 0, 1), 19);
        pair(x, "fill, no trait", x.fill(1, 0, 0, 1), -2);
        pair(x, "model", x.model(1), 0);
        pair(x, "model, bits beyond", x.model(2), -1);
        pair(x, "trait that leaks", Check.trait(x, "sum 0 from 0 to 0 ahead"), -3);
    }

    private static void callsThatLeaveIt() {
        TraitHouse x = Check.house("1", "count 0 from 0 to 0 ahead");
        due("refused by -3", x.status(), -3);
        x.leads(20, 0);
        x.leads(0, 0);
        x.feed(0, 0, 0, 0, 0);
        x.end(-1);
        x.end(0);
        x.fault();
        x.value(0, 20, 0, 0);
        x.value(0, 0, 0, 0);
        x.kept(0, 20);
        x.age(0, 20, 0);
        x.held(20);
        x.held(0);
        x.history(20, 0, 0);
        x.told(20, 0, 0, 0);
        x.needed(20);
        x.hung(20);
        x.misses(20, 0);
        x.shift(20, 0, 0, 0, 0, 0, 0);
        x.shift(0, 0, 0, 0, 0, 0, 0);
        x.count(20);
        x.count(0);
        due("refused by -3 still", x.status(), -3);
    }
}
