/** Promise 11: value, and Term II's way of working it out. */
public final class ValueTest {
    private static final Check CHECK = new Check();

    public static void main(String[] args) {
        windows();
        lastAndAge();
        known();
        ones();
        lacks();
        widths();
        wrongInputs();
        CHECK.finish();
    }

    private static void due(String call, long got, long want) {
        CHECK.due(call, got, want);
    }

    private static void windows() {
        TraitHouse x = Check.house("count 0 from 10 to 5", "sum 0 from 10 to 5", "least 0 from 10 to 5",
                "most 0 from 10 to 5", "count 0 from 1000000 to 0", "count 0 from 0 to 0");
        x.row(0, 0, 9, 9, 1);
        x.row(0, 0, 10, 10, 20);
        x.row(0, 0, 12, 12, -7);
        x.row(0, 0, 15, 15, 300);
        x.row(0, 0, 16, 16, 4000);
        x.row(0, 1, 12, 12, 50000);
        due("count, both edges within", x.value(0, 0, 20, 20), 3);
        due("sum", x.value(1, 0, 20, 20), 313);
        due("least", x.value(2, 0, 20, 20), -7);
        due("most", x.value(3, 0, 20, 20), 300);
        due("count of all", x.value(4, 0, 20, 20), 5);
        due("count of all ahead", x.value(4, 0, 12, 20), 3);
        due("count at the moment", x.value(5, 0, 12, 20), 1);
        due("count at none", x.value(5, 0, 13, 20), 0);
        due("count ahead of all", x.value(0, 0, 3, 20), 0);
        due("sum of none", x.value(1, 0, 13, 20), TraitHouse.LACK);
        due("least of none", x.value(2, 0, 13, 20), TraitHouse.LACK);
        due("most of none", x.value(3, 0, 13, 20), TraitHouse.LACK);
        x.row(1, 0, 10, 10, 1000000);
        x.row(2, 0, 10, 10, -1000000);
        due("least, the widest", x.value(2, 1, 20, 20), 1000000);
        due("most, the widest", x.value(3, 2, 20, 20), -1000000);
    }

    private static void lastAndAge() {
        TraitHouse x = Check.house("last 2", "age 2");
        due("last of none", x.value(0, 0, 5, 5), TraitHouse.LACK);
        due("age of none", x.value(1, 0, 5, 5), TraitHouse.LACK);
        x.row(0, 2, 7, 7, 70);
        x.row(0, 2, 5, 9, 50);
        x.row(0, 3, 8, 8, 80);
        due("last came about last, not told last", x.value(0, 0, 9, 9), 70);
        due("age", x.value(1, 0, 9, 9), 2);
        due("age 0", x.value(1, 0, 7, 7), 0);
        due("not behind the moment", x.value(0, 0, 6, 9), 50);
        x.row(0, 2, 7, 7, 71);
        due("of those alike the one told last", x.value(0, 0, 9, 9), 71);
        x.row(0, 2, 7, 8, 72);
        due("not ahead of being known", x.value(0, 0, 9, 7), 71);
        due("known", x.value(0, 0, 9, 8), 72);
        x.row(1, 2, 7, 7, 73);
        x.merge(1, 0, 20);
        due("told last by another one", x.value(0, 0, 20, 20), 73);
        x.erase(1);
        due("erased", x.value(0, 0, 20, 20), 72);
        x.row(0, 2, 7, 7, 74);
        due("told last after erasing", x.value(0, 0, 20, 20), 74);
    }

    private static void known() {
        TraitHouse x = Check.house("sum 0 from 100 to 0");
        x.row(0, 0, 10, 10, 1);
        x.row(0, 0, 10, 15, 20);
        x.row(0, 0, 12, 12, 300);
        due("known at once", x.value(0, 0, 10, 10), 1);
        due("known behind the moment", x.value(0, 0, 10, 15), 21);
        due("known ahead of the moment", x.value(0, 0, 12, 10), 1);
        due("known ahead of all", x.value(0, 0, 12, 9), TraitHouse.LACK);
        due("all", x.value(0, 0, 100, 100000), 321);
    }

    private static void ones() {
        TraitHouse x = Check.house("sum 0 from 100000 to 0");
        x.row(0, 0, 0, 0, 1);
        x.row(1, 0, 0, 0, 20);
        x.row(2, 0, 0, 0, 300);
        x.row(3, 0, 0, 0, 4000);
        x.merge(0, 2, 10);
        x.merge(1, 2, 20);
        x.merge(2, 3, 15);
        due("alone", x.value(0, 0, 5, 5), 1);
        due("two", x.value(0, 0, 5, 10), 301);
        due("two, from the other", x.value(0, 2, 5, 10), 301);
        due("not yet", x.value(0, 1, 5, 10), 20);
        due("three", x.value(0, 0, 5, 15), 4301);
        due("three, from the last", x.value(0, 3, 5, 15), 4301);
        due("four", x.value(0, 1, 5, 20), 4321);
        due("as known, not as of the moment", x.value(0, 1, 90, 14), 20);
    }

    private static void lacks() {
        TraitHouse x = Check.house("last 0 + 1", "1 - last 0", "last 0 * 0", "0 / last 0", "1/0", "1/(1-1) else 9",
                "trait 0", "trait 0 else 3", "(last 0 else 2) * (1/0 else 4)", "0/5");
        for (int i = 0; i <= 4; i++) {
            due("lack " + i, x.value(i, 0, 0, 0), TraitHouse.LACK);
        }
        due("1/(1-1) else 9", x.value(5, 0, 0, 0), TraitHouse.LACK);
        due("trait of lack", x.value(6, 0, 0, 0), TraitHouse.LACK);
        due("else", x.value(7, 0, 0, 0), 3);
        due("else twice", x.value(8, 0, 0, 0), TraitHouse.LACK);
        due("0/5", x.value(9, 0, 0, 0), 0);
        TraitHouse y = Check.house("1/((1-1) else 9)", "(1/0) else 9", "(1/0 else 4) else 9");
        due("else of what isn't lack", y.value(0, 0, 0, 0), TraitHouse.LACK);
        due("else of a bracket", y.value(1, 0, 0, 0), 9);
        due("else of an atom within", y.value(2, 0, 0, 0), 9);
    }

    private static void widths() {
        TraitHouse x = Check.house("1000000*1000000", "trait 0+1", "0-trait 0", "trait 2-1", "trait 0*trait 0",
                "trait 0*(0-1)", "trait 0*(0-2)", "trait 0+1-1", "trait 0/trait 0", "(trait 0*2) else 5",
                "(trait 0*1000000) else 6", "trait 4/trait 4", "trait 0-1+1", "999999*1000000+1000000",
                "trait 2*trait 2", "trait 0*0");
        due("just within", x.value(0, 0, 0, 0), 1000000000000L);
        due("one above", x.value(1, 0, 0, 0), TraitHouse.LACK);
        due("just within, below", x.value(2, 0, 0, 0), -1000000000000L);
        due("one below", x.value(3, 0, 0, 0), TraitHouse.LACK);
        due("too wide for a long", x.value(4, 0, 0, 0), TraitHouse.LACK);
        due("by -1", x.value(5, 0, 0, 0), -1000000000000L);
        due("by -2", x.value(6, 0, 0, 0), TraitHouse.LACK);
        due("above on the way", x.value(7, 0, 0, 0), TraitHouse.LACK);
        due("wide by wide", x.value(8, 0, 0, 0), 1);
        due("else of what is above", x.value(9, 0, 0, 0), 5);
        due("else of what is far above", x.value(10, 0, 0, 0), 6);
        due("lack by lack", x.value(11, 0, 0, 0), TraitHouse.LACK);
        due("within on the way", x.value(12, 0, 0, 0), 1000000000000L);
        due("sum just within", x.value(13, 0, 0, 0), 1000000000000L);
        due("below by below", x.value(14, 0, 0, 0), TraitHouse.LACK);
        due("by 0", x.value(15, 0, 0, 0), 0);
        TraitHouse y = Check.house("65536*65536", "trait 0*trait 0", "0*trait 0", "(0-trait 0)*trait 0",
                "trait 0*232", "trait 0*233");
        due("2 to the 32nd", y.value(0, 0, 0, 0), 4294967296L);
        due("2 to the 64th", y.value(1, 0, 0, 0), TraitHouse.LACK);
        due("0 times", y.value(2, 0, 0, 0), 0);
        due("below", y.value(3, 0, 0, 0), TraitHouse.LACK);
        due("within", y.value(4, 0, 0, 0), 996432412672L);
        due("above", y.value(5, 0, 0, 0), TraitHouse.LACK);
    }

    private static void wrongInputs() {
        TraitHouse x = Check.house("5");
        due("sound", x.value(0, 19, 100000, 0), 5);
        due("known last", x.value(0, 0, 0, 100000), 5);
        due("trait 1", x.value(1, 0, 0, 0), TraitHouse.LACK);
        due("trait -1", x.value(-1, 0, 0, 0), TraitHouse.LACK);
        due("trait most", x.value(Integer.MAX_VALUE, 0, 0, 0), TraitHouse.LACK);
        due("person 20", x.value(0, 20, 0, 0), TraitHouse.LACK);
        due("person -1", x.value(0, -1, 0, 0), TraitHouse.LACK);
        due("moment -1", x.value(0, 0, -1, 0), TraitHouse.LACK);
        due("moment 100001", x.value(0, 0, 100001, 0), TraitHouse.LACK);
        due("known -1", x.value(0, 0, 0, -1), TraitHouse.LACK);
        due("known 100001", x.value(0, 0, 0, 100001), TraitHouse.LACK);
    }
}
