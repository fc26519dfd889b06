/** Promises 12 to 20: law, limit, freshen, kept, age, held, fill, history, told. */
public final class KeepingTest {
    private static final long LACK = TraitHouse.LACK;
    private static final int NONE = TraitHouse.NONE;
    private static final Check CHECK = new Check();

    public static void main(String[] args) {
        laws();
        limits();
        freshening();
        fullHistory();
        filling();
        wrongFillings();
        history();
        wrongInputs();
        CHECK.finish();
    }

    private static void due(String call, long got, long want) {
        CHECK.due(call, got, want);
    }

    private static void laws() {
        TraitHouse x = Check.house("last 0", "last 0");
        for (int person = 0; person < 4; person++) {
            x.row(person, 0, 0, 0, 10 * person);
        }
        due("from above to", x.law(0, 3, 2), -1);
        due("number ahead of trait", x.law(9, 3, 2), -1);
        due("no trait", x.law(2, 2, 3), -2);
        due("trait -1", x.law(-1, 2, 3), -2);
        due("no law as yet", x.freshen(0), 0);
        due("edges lie within", x.law(0, 10, 20), 0);
        due("outside two", x.freshen(0), 2);
        due("held", x.held(0), 2);
        due("one number", x.law(0, 20, 20), 0);
        due("outside three", x.freshen(0), 3);
        due("held in all", x.held(0), 5);
        due("held of another one", x.held(1), 0);
        due("another one has no law", x.freshen(1), 0);
        due("the widest", x.law(0, Long.MIN_VALUE, Long.MAX_VALUE), 0);
        due("none outside", x.freshen(0), 0);
        due("above all", x.law(0, Long.MAX_VALUE, Long.MAX_VALUE), 0);
        due("all but LACK", x.freshen(0), 4);
        due("held at last", x.held(0), 9);
        due("held of none", x.held(2), NONE);
        due("held of -1", x.held(-1), NONE);
    }

    private static void limits() {
        TraitHouse x = Check.house("1", "1");
        x.freshen(0);
        due("limit at first", x.limit(0, 0), 100000);
        due("what it was", x.limit(0, 5), 0);
        due("-1", x.limit(0, -1), -1);
        due("100001", x.limit(0, 100001), -1);
        due("number ahead of trait", x.limit(2, -1), -1);
        due("no trait", x.limit(2, 0), -2);
        due("trait -1", x.limit(-1, 0), -2);
        due("still", x.limit(0, 5), 5);
        x.now(5);
        due("not above", x.age(0, 0, 1), 0);
        x.now(6);
        due("above", x.age(0, 0, 1), 1);
        due("no more", x.limit(0, 100000), 5);
        due("fresh by a wider limit", x.age(0, 0, 1), 0);
        x.now(100000);
        due("never stale", x.age(0, 0, 1), 0);
        due("of another one", x.age(1, 0, 1), NONE);
    }

    private static void freshening() {
        TraitHouse x = Check.house("last 0", "count 0 from 100 to 0");
        x.row(0, 0, 3, 3, 30);
        x.row(1, 0, 3, 9, 31);
        due("no trait", x.freshen(2), -2);
        due("trait -1", x.freshen(-1), -2);
        due("none kept", x.kept(0, 0), LACK);
        due("none made", x.age(0, 0, 0), NONE);
        due("nor stale", x.age(0, 0, 1), NONE);
        x.now(5);
        due("freshen", x.freshen(0), 0);
        due("kept", x.kept(0, 0), 30);
        due("not known as yet", x.kept(0, 1), LACK);
        due("but made", x.age(0, 1, 0), 5);
        due("what 0", x.age(0, 0, 0), 5);
        due("what 1", x.age(0, 0, 1), 0);
        due("what 2", x.age(0, 0, 2), NONE);
        due("what -1", x.age(0, 0, -1), NONE);
        due("another trait", x.kept(1, 0), LACK);
        x.row(0, 0, 4, 4, 40);
        due("kept stays", x.kept(0, 0), 30);
        x.now(9);
        x.law(0, 0, 35);
        due("held one", x.freshen(0), 1);
        due("kept stays as it was", x.kept(0, 0), 30);
        due("and its moment", x.age(0, 0, 0), 5);
        due("the other is made", x.kept(0, 1), 31);
        due("at its moment", x.age(0, 1, 0), 9);
        due("places", x.count(6), 39);
        due("held has no place", x.told(0, 0, 9, 0), 5);
        due("held one again", x.freshen(0), 1);
        due("held in all", x.held(0), 2);
        x.law(0, 0, 40);
        due("law is wider", x.freshen(0), 0);
        due("kept anew", x.kept(0, 0), 40);
        x.law(0, 50, 60);
        due("kept is not held afterwards", x.kept(0, 0), 40);
    }

    private static void fullHistory() {
        TraitHouse x = Check.house("1");
        x.now(200);
        due("a third", x.fill(0, 1, 40, 1), 800);
        due("two thirds", x.fill(0, 41, 80, 1), 800);
        due("too much", x.fill(0, 81, 120, 1), -5);
        due("nothing is put", x.count(6), 1600);
        due("nothing at its moment", x.told(0, 0, 120, 0), 80);
        x.erase(19);
        due("nineteen people", x.fill(0, 81, 101, 1), 19 * 21);
        due("places", x.count(6), 1999);
        due("no room for nineteen", x.fill(0, 102, 102, 1), -5);
        due("freshen all the same", x.freshen(0), 0);
        due("full", x.count(6), 2000);
        due("the first one has a place", x.told(0, 0, 200, 0), 200);
        due("the second one has none", x.told(0, 1, 200, 0), 101);
        due("but is kept", x.age(0, 1, 0), 200);
        due("again", x.freshen(0), 0);
        due("full still", x.count(6), 2000);
        for (int person = 0; person < 19; person++) {
            x.erase(person);
        }
        due("no place is free again", x.count(6), 2000);
        due("nobody needs none", x.fill(0, 1, 1, 1), 0);
        due("status", x.status(), 0);
        due("freshen nobody", x.freshen(0), 0);
    }

    private static void filling() {
        TraitHouse x = Check.house("sum 0 from 100 to 0");
        x.row(0, 0, 2, 2, 1);
        x.row(0, 0, 2, 5, 20);
        x.row(1, 0, 3, 3, 300);
        x.merge(1, 0, 6);
        x.law(0, 0, 1);
        x.now(8);
        due("1, 3, 5, 7", x.fill(0, 1, 8, 2), 80);
        due("at 1", x.history(0, 0, 1), LACK);
        due("there is a place at 1", x.told(0, 0, 1, 0), 1);
        due("at 3", x.history(0, 0, 3), 1);
        due("at 4", x.history(0, 0, 4), 1);
        due("at 5, laws not asked", x.history(0, 0, 5), 21);
        due("at 7", x.history(0, 0, 7), 321);
        due("at 8 there is none", x.told(0, 0, 8, 0), 7);
        due("filled", x.told(0, 0, 8, 1), 1);
        due("nothing is held", x.held(0), 0);
        due("nothing is kept", x.age(0, 0, 0), NONE);
        due("one moment, wide step", x.fill(0, 8, 8, Integer.MAX_VALUE), 20);
        due("two moments, the last just within", x.fill(0, 0, 8, 8), 40);
        due("wide step", x.fill(0, 7, 8, Integer.MAX_VALUE), 20);
        due("at 0", x.told(0, 19, 0, 0), 0);
    }

    private static void wrongFillings() {
        TraitHouse x = Check.house("1");
        x.now(50);
        due("a -1", x.fill(0, -1, 5, 1), -1);
        due("b 100001", x.fill(0, 0, 100001, 50000), -1);
        due("b behind NOW", x.fill(0, 50, 51, 1), -1);
        due("a behind b", x.fill(0, 6, 5, 1), -1);
        due("d 0", x.fill(0, 5, 5, 0), -1);
        due("d -1", x.fill(0, 5, 5, -1), -1);
        due("d least", x.fill(0, 5, 5, Integer.MIN_VALUE), -1);
        due("41 moments", x.fill(0, 10, 50, 1), -1);
        due("no trait", x.fill(1, 5, 5, 1), -2);
        due("trait -1", x.fill(-1, 5, 5, 1), -2);
        due("number ahead of trait", x.fill(1, 5, 5, 0), -1);
        due("status", x.status(), -1);
        due("nothing is put", x.count(6), 0);
        due("40 moments", x.fill(0, 11, 50, 1), 800);
        due("at NOW", x.fill(0, 50, 50, 1), 20);
        x.now(80);
        due("41 moments by two", x.fill(0, 0, 80, 2), -1);
        due("40 moments by two", x.fill(0, 0, 79, 2), 800);
    }

    private static void history() {
        TraitHouse x = Check.house("last 0", "last 0 * 2");
        x.row(0, 0, 0, 0, 1);
        x.now(10);
        x.freshen(0);
        x.row(0, 0, 0, 0, 2);
        due("none ahead", x.history(0, 0, 9), LACK);
        due("at it", x.history(0, 0, 10), 1);
        due("behind it", x.history(0, 0, 100000), 1);
        due("not filled", x.told(0, 0, 10, 1), 0);
        x.fill(0, 10, 10, 1);
        due("alike: put last", x.history(0, 0, 10), 2);
        due("alike: filled", x.told(0, 0, 10, 1), 1);
        x.row(0, 0, 0, 0, 3);
        x.freshen(0);
        due("alike: put last again", x.history(0, 0, 10), 3);
        due("alike: not filled", x.told(0, 0, 10, 1), 0);
        x.row(0, 0, 0, 0, 4);
        x.fill(0, 5, 5, 1);
        due("latest moment, not put last", x.history(0, 0, 10), 3);
        due("the other one", x.history(0, 0, 9), 4);
        due("its moment", x.told(0, 0, 9, 0), 5);
        due("of another trait", x.history(1, 0, 10), LACK);
        due("of another trait, told", x.told(1, 0, 10, 0), NONE);
        due("of another person", x.history(0, 1, 10), LACK);
        due("which is there", x.told(0, 1, 10, 0), 10);
    }

    private static void wrongInputs() {
        TraitHouse x = Check.house("1");
        x.freshen(0);
        TraitHouse y = Check.house("1", "2", "3");
        y.freshen(0);
        y.freshen(1);
        y.freshen(2);
        due("person 20 is no one of the next trait", y.history(1, 20, 0), LACK);
        due("person -1 is no one of the trait ahead", y.history(1, -1, 0), LACK);
        due("told of person 20", y.told(1, 20, 0, 0), NONE);
        due("trait 3 of person -1", y.told(3, -1, 0, 0), NONE);
        due("trait -1 of person 20", y.told(-1, 20, 0, 0), NONE);
        int[][] wrong = {{1, 0, 0}, {-1, 0, 0}, {0, 20, 0}, {0, -1, 0}, {0, 0, -1}, {0, 0, 100001}};
        for (int[] each : wrong) {
            String call = each[0] + ", " + each[1] + ", " + each[2];
            due("history " + call, x.history(each[0], each[1], each[2]), LACK);
            due("told " + call, x.told(each[0], each[1], each[2], 0), NONE);
        }
        due("told what 2", x.told(0, 0, 0, 2), NONE);
        due("told what -1", x.told(0, 0, 0, -1), NONE);
        due("kept trait 1", x.kept(1, 0), LACK);
        due("kept trait -1", x.kept(-1, 0), LACK);
        due("kept person 20", x.kept(0, 20), LACK);
        due("kept person -1", x.kept(0, -1), LACK);
        due("age trait 1", x.age(1, 0, 0), NONE);
        due("age trait -1", x.age(-1, 0, 0), NONE);
        due("age person 20", x.age(0, 20, 0), NONE);
        due("age person -1", x.age(0, -1, 0), NONE);
    }
}
