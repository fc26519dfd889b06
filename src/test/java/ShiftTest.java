/** Promise 25: shift. */
public final class ShiftTest {
    private static final Check CHECK = new Check();

    public static void main(String[] args) {
        shares();
        bounds();
        erasedAndOnes();
        wrongInputs();
        CHECK.finish();
    }

    private static void due(String call, long got, long want) {
        CHECK.due(call, got, want);
    }

    private static void both(TraitHouse x, String call, int one, int other, long upper, long lower) {
        due(call + ": upper", x.shift(0, one, other, 10, 20, 30, 0), upper);
        due(call + ": lower", x.shift(0, one, other, 10, 20, 30, 1), lower);
    }

    private static void shares() {
        TraitHouse x = Check.house("last 0");
        for (int person = 0; person < 6; person++) {
            x.row(person, 0, 1, 1, 5);
            x.row(person, 0, 2, 2, person < 2 ? 5 : 15);
            x.row(person, 0, 3, 3, 35);
        }
        x.row(6, 0, 4, 4, 25);
        both(x, "the same", 1, 1, 0, 1);
        both(x, "two thirds", 1, 2, 2, 3);
        both(x, "the other way", 2, 1, 2, 3);
        both(x, "all", 1, 3, 1, 1);
        both(x, "all but none", 2, 3, 1, 1);
        both(x, "one comes", 3, 4, 1, 7);
        both(x, "one goes", 4, 3, 1, 7);
        both(x, "nobody at one", 0, 1, -6, -6);
        both(x, "nobody at the other", 1, 0, -6, -6);
        both(x, "nobody at both", 0, 0, -6, -6);
        both(x, "moments ahead of NOW count too", 100000, 1, 1, 1);
    }

    private static void bounds() {
        TraitHouse x = Check.house("last 0");
        int[] values = {9, 10, 19, 20, 29, 30, -1000000, 1000000};
        for (int person = 0; person < values.length; person++) {
            x.row(person, 0, 1, 1, values[person]);
            x.row(person, 0, 2, 2, 15);
        }
        both(x, "two in each heap", 1, 2, 3, 4);
        TraitHouse y = Check.house("last 0");
        int[] edges = {10, 20, 30, 9, 19, 29};
        for (int moment = 0; moment < edges.length; moment++) {
            y.row(0, 0, moment, moment, edges[moment]);
        }
        both(y, "the first bound lies in the second heap", 0, 4, 0, 1);
        both(y, "the second bound lies in the third heap", 1, 5, 0, 1);
        both(y, "the third bound lies in the fourth heap", 2, 5, 1, 1);
        both(y, "below the first", 3, 0, 1, 1);
        due("one bound thrice", x.shift(0, 1, 2, 20, 20, 20, 0), 1);
        due("of two", x.shift(0, 1, 2, 20, 20, 20, 1), 2);
        due("all in one heap", x.shift(0, 1, 2, Long.MAX_VALUE, Long.MAX_VALUE, Long.MAX_VALUE, 0), 0);
        due("all in the last heap", x.shift(0, 1, 2, Long.MIN_VALUE, Long.MIN_VALUE, Long.MIN_VALUE, 1), 1);
    }

    private static void erasedAndOnes() {
        TraitHouse x = Check.house("last 0");
        x.row(0, 0, 1, 1, 5);
        x.row(1, 0, 1, 1, 15);
        x.row(0, 0, 2, 9, 35);
        x.merge(2, 0, 2);
        // At 2 person 2 too has the value 5; what came about at 2 is known from 9 on alone.
        both(x, "people who are one count each", 1, 2, 1, 6);
        x.erase(1);
        both(x, "an erased one doesn't count", 1, 2, 0, 1);
        x.erase(0);
        both(x, "nobody is left", 1, 2, -6, -6);
        TraitHouse y = Check.house("1");
        for (int person = 0; person < 20; person++) {
            due("with " + (20 - person), y.shift(0, 0, 1, 0, 0, 0, 1), 1);
            y.erase(person);
        }
        due("with nobody", y.shift(0, 0, 1, 0, 0, 0, 1), -6);
    }

    private static void wrongInputs() {
        TraitHouse x = Check.house("1");
        due("sound", x.shift(0, 0, 100000, 1, 1, 1, 0), 0);
        due("what 2", x.shift(0, 0, 1, 1, 2, 3, 2), -1);
        due("what -1", x.shift(0, 0, 1, 1, 2, 3, -1), -1);
        due("one -1", x.shift(0, -1, 1, 1, 2, 3, 0), -1);
        due("one 100001", x.shift(0, 100001, 1, 1, 2, 3, 0), -1);
        due("other -1", x.shift(0, 0, -1, 1, 2, 3, 0), -1);
        due("other 100001", x.shift(0, 0, 100001, 1, 2, 3, 0), -1);
        due("a above b", x.shift(0, 0, 1, 3, 2, 3, 0), -1);
        due("b above c", x.shift(0, 0, 1, 1, 4, 3, 0), -1);
        due("trait 1", x.shift(1, 0, 1, 1, 2, 3, 0), -2);
        due("trait -1", x.shift(-1, 0, 1, 1, 2, 3, 0), -2);
        due("number ahead of trait", x.shift(1, 0, 1, 1, 2, 3, 2), -1);
        due("status isn't touched", x.status(), 0);
        x.now(-1);
        due("a shift that is not refused", x.shift(0, 0, 1, 1, 2, 3, 0), 0);
        due("nor then", x.status(), -1);
    }
}
