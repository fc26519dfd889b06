/** Terms III and IV, sentence by sentence: what is kept, history, models, shifts. */
final class KeepingSentences {
    private static final long LACK = TraitHouse.LACK;
    private static final int NONE = TraitHouse.NONE;

    private final Sentences s;

    KeepingSentences(Sentences s) {
        this.s = s;
    }

    void run() {
        teaching();
        kept();
        freshening();
        laws();
        heldCounts();
        limits();
        stale();
        filling();
        fortyMoments();
        lawsAreNotAsked();
        fullHistory();
        freshenedHistory();
        historyAtMoments();
        models();
        needs();
        hanging();
        shiftsNumbers();
        heaps();
        shares();
        constants();
    }

    private void teaching() {
        s.about("TEACHING: a TRAIT at t as known at t.");
        TraitHouse x = Check.house("last 0");
        x.row(0, 0, 3, 5, 9);
        x.merge(1, 0, 6);
        x.now(6);
        s.due("not known at 4", x.shift(0, 4, 4, 0, 0, 0, 0), -6);
        s.due("known at 5", x.shift(0, 5, 5, 0, 0, 0, 1), 1);
        x.fill(0, 4, 6, 1);
        s.due("at 4", x.history(0, 0, 4), LACK);
        s.due("at 5", x.history(0, 0, 5), 9);
        s.due("not ONE at 5", x.history(0, 1, 5), LACK);
        s.due("ONE at 6", x.history(0, 1, 6), 9);
    }

    private void kept() {
        s.about("KEPT: of each TRAIT and person a value (or LACK) and when it was made; none at first.");
        TraitHouse x = Check.house("last 0", "2");
        x.row(3, 0, 0, 0, 30);
        for (int trait = 0; trait < 2; trait++) {
            s.due("none at first", x.kept(trait, 3), LACK);
            s.due("no moment at first", x.age(trait, 3, 0), NONE);
            s.due("not stale at first", x.age(trait, 3, 1), NONE);
        }
        x.now(4);
        x.freshen(0);
        s.due("a value", x.kept(0, 3), 30);
        s.due("when", x.age(0, 3, 0), 4);
        s.due("or LACK", x.kept(0, 4), LACK);
        s.due("when LACK was made", x.age(0, 4, 0), 4);
        s.due("a LACK is stale or not", x.age(0, 4, 1), 0);
        s.due("of another trait none", x.age(1, 3, 0), NONE);
    }

    private void freshening() {
        s.about("FRESHEN a TRAIT: of each person that isn't ERASED the value at NOW as known at NOW is made.");
        TraitHouse x = Check.house("last 0");
        x.row(0, 0, 3, 5, 1);
        x.row(1, 0, 3, 3, 2);
        x.row(1, 0, 5, 5, 3);
        x.erase(19);
        x.now(4);
        s.due("freshen at 4", x.freshen(0), 0);
        s.due("not known at 4", x.kept(0, 0), LACK);
        s.due("came about ahead of 4", x.kept(0, 1), 2);
        x.now(5);
        s.due("freshen at 5", x.freshen(0), 0);
        s.due("known at 5", x.kept(0, 0), 1);
        s.due("came about at 5", x.kept(0, 1), 3);
        for (int person = 0; person < 19; person++) {
            s.due("made of " + person, x.age(0, person, 0), 5);
        }
        s.due("not of the erased one", x.age(0, 19, 0), NONE);
        s.due("places", x.count(6), 38);
    }

    private void laws() {
        s.about("LAW of a TRAIT: from a number to another one (none at first): a value that is made and lies outside"
                + " (LACK doesn't) is HELD: KEPT stays as it was;");
        TraitHouse x = Check.house("last 0", "last 0");
        int[] values = {9, 10, 20, 21, -1000000, 1000000};
        for (int person = 0; person < values.length; person++) {
            x.row(person, 0, 0, 0, values[person]);
        }
        s.due("none at first", x.freshen(0), 0);
        s.due("from 10 to 20", x.law(0, 10, 20), 0);
        x.now(7);
        s.due("four lie outside", x.freshen(0), 4);
        int[] made = {0, 7, 7, 0, 0, 0, 7};
        for (int person = 0; person < made.length; person++) {
            s.due("made of " + person, x.age(0, person, 0), made[person]);
        }
        for (int person = 0; person < values.length; person++) {
            s.due("kept of " + person, x.kept(0, person), values[person]);
        }
        s.due("a law of one trait alone", x.freshen(1), 0);
        s.due("one number", x.law(0, 10, 10), 0);
        s.due("five lie outside", x.freshen(0), 5);
        s.due("the widest law", x.law(0, Long.MIN_VALUE, Long.MAX_VALUE), 0);
        s.due("none lies outside", x.freshen(0), 0);
        s.due("the least number", x.law(0, Long.MIN_VALUE, Long.MIN_VALUE), 0);
        s.due("all lie outside but LACKS", x.freshen(0), 6);
        s.due("the greatest number", x.law(0, Long.MAX_VALUE, Long.MAX_VALUE), 0);
        s.due("all lie outside again", x.freshen(0), 6);
        s.due("LACK alone", x.law(0, LACK, LACK), 0);
        s.due("all lie outside once more", x.freshen(0), 6);
        s.due("above LACK", x.law(0, LACK + 1, Long.MAX_VALUE), 0);
        s.due("LACK lies outside of no law", x.freshen(0), 0);

        TraitHouse y = Check.house("1000000*1000000", "0-trait 0");
        s.due("the greatest value, no law", y.freshen(0), 0);
        s.due("the least value, no law", y.freshen(1), 0);
        y.law(0, -1000000000000L, 999999999999L);
        y.law(1, -999999999999L, 1000000000000L);
        s.due("one below the greatest", y.freshen(0), 20);
        s.due("one above the least", y.freshen(1), 20);

        TraitHouse z = Check.house("5");
        z.law(0, 6, 7);
        s.due("held at once", z.freshen(0), 20);
        s.due("nothing is kept", z.age(0, 0, 0), NONE);
        s.due("nor a value", z.kept(0, 0), LACK);
    }

    private void heldCounts() {
        s.about("HELD counts all such.");
        TraitHouse x = Check.house("last 0", "1");
        x.row(0, 0, 0, 0, 5);
        x.row(1, 0, 0, 0, 6);
        s.due("none at first", x.held(0), 0);
        x.law(0, 0, 4);
        x.freshen(0);
        s.due("two", x.held(0), 2);
        x.freshen(0);
        s.due("four", x.held(0), 4);
        x.law(0, 0, 5);
        x.freshen(0);
        s.due("five", x.held(0), 5);
        x.erase(1);
        x.freshen(0);
        s.due("five still", x.held(0), 5);
        x.law(1, 2, 2);
        x.freshen(1);
        s.due("of another trait", x.held(1), 19);
        s.due("five as before", x.held(0), 5);
        x.fill(0, 0, 0, 1);
        s.due("fill holds none", x.held(0), 5);
    }

    private void limits() {
        s.about("LIMIT of a TRAIT (0 .. 100,000; 100,000 at first):");
        TraitHouse x = Check.house("1", "2");
        s.due("100000 at first", x.limit(0, 0), 100000);
        s.due("0 may be", x.limit(0, 100000), 0);
        s.due("100000 may be", x.limit(0, 9), 100000);
        for (int no : new int[] {-1, 100001, Integer.MIN_VALUE, Integer.MAX_VALUE}) {
            s.refused(x, "limit " + no, x.limit(0, no), -1);
        }
        s.due("it stays", x.limit(0, 9), 9);
        s.due("of another trait", x.limit(1, 9), 100000);
    }

    private void stale() {
        s.about("KEPT is STALE, if NOW less its MOMENT is above it.");
        TraitHouse x = Check.house("1", "2");
        x.model(1);
        x.now(10);
        x.freshen(0);
        x.limit(0, 0);
        s.due("0 is not above 0", x.age(0, 0, 1), 0);
        s.due("nor misses it", x.misses(0, 0), 0);
        x.now(11);
        s.due("1 is above 0", x.age(0, 0, 1), 1);
        s.due("misses it", x.misses(0, 0), 1);
        x.limit(0, 1);
        s.due("1 is not above 1", x.age(0, 0, 1), 0);
        x.limit(0, 100000);
        x.now(100000);
        s.due("nothing is above 100000", x.age(0, 0, 1), 0);
        x.limit(0, 99990);
        s.due("99990 is not above 99990", x.age(0, 0, 1), 0);
        x.limit(0, 99989);
        s.due("but above 99989", x.age(0, 0, 1), 1);
        x.freshen(0);
        s.due("fresh again", x.age(0, 0, 1), 0);
    }

    private void filling() {
        s.about("FILL back a TRAIT for MOMENTS a, a + d, ... up to b");
        TraitHouse x = Check.house("age 0");
        x.row(0, 0, 0, 0, 0);
        x.now(100000);
        s.due("10, 13, 16", x.fill(0, 10, 18, 3), 60);
        s.due("none at 9", x.told(0, 0, 9, 0), NONE);
        for (int moment = 10; moment <= 20; moment++) {
            int latest = Math.min(16, moment - (moment - 10) % 3);
            s.due("at " + moment, x.told(0, 0, moment, 0), latest);
            s.due("value at " + moment, x.history(0, 0, moment), latest);
        }
        s.due("b itself", x.fill(0, 21, 24, 3), 40);
        s.due("at b", x.told(0, 0, 24, 0), 24);
        s.due("a is b", x.fill(0, 30, 30, 1), 20);
        s.due("a step beyond b", x.fill(0, 40, 42, 3), 20);
        s.due("at a alone", x.told(0, 0, 50, 0), 40);
        s.due("the widest step", x.fill(0, 0, 100000, Integer.MAX_VALUE), 20);
        s.due("the widest step from the last moment", x.fill(0, 100000, 100000, Integer.MAX_VALUE), 20);
        s.due("a step that wraps around", x.fill(0, 99999, 100000, Integer.MAX_VALUE - 99999), 20);
        s.due("places", x.count(6), 60 + 40 + 20 + 20 + 60);
    }

    private void fortyMoments() {
        s.about("(40 at most):");
        TraitHouse x = Check.house("1");
        x.now(100000);
        s.due("40", x.fill(0, 0, 39, 1), 800);
        s.refused(x, "41", x.fill(0, 0, 40, 1), -1);
        s.refused(x, "all", x.fill(0, 0, 100000, 1), -1);
        s.due("40 by ten", x.fill(0, 1, 400, 10), 800);
        s.refused(x, "41 by ten", x.fill(0, 0, 400, 10), -1);
        s.refused(x, "41 by 2500", x.fill(0, 0, 100000, 2500), -1);
        s.due("places", x.count(6), 1600);
        TraitHouse y = Check.house("1");
        y.now(100000);
        s.due("40 by 2500", y.fill(0, 1, 100000, 2500), 800);
    }

    private void lawsAreNotAsked() {
        s.about("of each person that isn't ERASED the value at each as known at each, marked as FILLED (LAWS are not asked):");
        TraitHouse x = Check.house("last 0");
        x.row(0, 0, 2, 4, 5);
        x.row(1, 0, 2, 2, 6);
        x.law(0, 100, 200);
        x.erase(2);
        x.now(9);
        s.due("nineteen people", x.fill(0, 3, 4, 1), 38);
        s.due("not known at 3", x.history(0, 0, 3), LACK);
        s.due("known at 4", x.history(0, 0, 4), 5);
        s.due("of another one", x.history(0, 1, 3), 6);
        s.due("filled", x.told(0, 0, 4, 1), 1);
        s.due("a LACK is filled too", x.told(0, 0, 3, 1), 1);
        s.due("not of the erased one", x.told(0, 2, 9, 0), NONE);
        s.due("nothing is held", x.held(0), 0);
        s.due("nothing is kept", x.age(0, 0, 0), NONE);
    }

    private void fullHistory() {
        s.about("HISTORY, 2000 places at most;");
        TraitHouse x = Check.house("1");
        x.now(500);
        x.fill(0, 0, 39, 1);
        x.fill(0, 40, 79, 1);
        s.refused(x, "21 moments are too many", x.fill(0, 80, 100, 1), -5);
        s.due("nothing is put", x.count(6), 1600);
        s.due("20 are not", x.fill(0, 80, 99, 1), 400);
        s.due("2000", x.count(6), 2000);
        s.refused(x, "none more", x.fill(0, 100, 100, 1), -5);
        s.due("freshen", x.freshen(0), 0);
        s.due("2000 still", x.count(6), 2000);
        s.due("the last place", x.told(0, 19, 500, 0), 99);
    }

    private void freshenedHistory() {
        s.about("each FRESHEN puts what it made (not HELD) there, too, not FILLED.");
        TraitHouse x = Check.house("last 0");
        x.row(0, 0, 0, 0, 5);
        x.row(1, 0, 0, 0, 50);
        x.law(0, 0, 10);
        x.now(3);
        x.freshen(0);
        s.due("places", x.count(6), 19);
        s.due("what was made", x.history(0, 0, 3), 5);
        s.due("not filled", x.told(0, 0, 3, 1), 0);
        s.due("a LACK too", x.told(0, 2, 3, 0), 3);
        s.due("which is a LACK", x.history(0, 2, 3), LACK);
        s.due("what was held is not there", x.told(0, 1, 3, 0), NONE);
        s.due("nor its value", x.history(0, 1, 3), LACK);
        x.freshen(0);
        s.due("each does", x.count(6), 38);
    }

    private void historyAtMoments() {
        s.about("HISTORY of a TRAIT, person and MOMENT m: of those whose MOMENT is not behind m the one with the latest MOMENT,"
                + " of alike ones the one put there last.");
        TraitHouse x = Check.house("last 0", "last 0 + 100");
        x.row(0, 0, 0, 0, 1);
        x.now(20);
        x.fill(0, 10, 10, 1);
        x.row(0, 0, 0, 0, 2);
        x.fill(0, 5, 5, 1);
        s.due("all are behind 4", x.told(0, 0, 4, 0), NONE);
        s.due("no value at 4", x.history(0, 0, 4), LACK);
        s.due("at 5", x.history(0, 0, 5), 2);
        s.due("at 9", x.history(0, 0, 9), 2);
        s.due("at 10, though put ahead", x.history(0, 0, 10), 1);
        s.due("at 100000", x.history(0, 0, 100000), 1);
        x.fill(0, 10, 10, 1);
        s.due("put last", x.history(0, 0, 10), 2);
        x.freshen(0);
        s.due("at 19", x.told(0, 0, 19, 0), 10);
        s.due("at 20", x.told(0, 0, 20, 0), 20);
        s.due("made, not filled", x.told(0, 0, 20, 1), 0);
        x.row(0, 0, 0, 0, 3);
        x.fill(0, 20, 20, 1);
        s.due("alike, filled last", x.told(0, 0, 20, 1), 1);
        s.due("its value", x.history(0, 0, 20), 3);
        s.due("of another person", x.history(0, 1, 20), LACK);
        s.due("of another trait", x.told(1, 0, 20, 0), NONE);
    }

    private void models() {
        s.about("MODELS 0 .. 9 (10 at most), each uses some TRAITS (bits).");
        TraitHouse x = Check.house("1", "2");
        for (int i = 0; i < 10; i++) {
            s.due("model " + i, x.model(i % 4), i);
        }
        s.refused(x, "model 10", x.model(1), -5);
        s.due("MODELS", x.count(5), 10);
        for (int i = 0; i < 10; i++) {
            s.due("needed of " + i, x.needed(i), i % 4);
            s.due("misses of " + i, x.misses(i, 0), Integer.bitCount(i % 4));
        }
        for (int no : new int[] {-1, 10, Integer.MIN_VALUE, Integer.MAX_VALUE}) {
            s.due("needed of " + no, x.needed(no), 0);
            s.due("misses of " + no, x.misses(no, 0), NONE);
        }
    }

    private void needs() {
        s.about("NEEDED are the TRAITS that a MODEL uses, and those that NEEDED ones read.");
        TraitHouse x = new TraitHouse();
        for (int i = 0; i < 20; i++) {
            Check.trait(x, i == 0 || i == 10 ? "1" : "trait " + (i - 1));
        }
        x.model(1 << 9);
        x.model(1 << 19);
        x.model(1 << 10 | 1 << 2);
        x.model(0);
        s.due("ten steps", x.needed(0), 1023);
        s.due("ten others", x.needed(1), 1023 << 10);
        s.due("two", x.needed(2), 1 << 10 | 7);
        s.due("none", x.needed(3), 0);
        TraitHouse y = Check.house("1", "2", "trait 0*(3+trait 1 else 4)", "(trait 2)");
        y.model(8);
        s.due("all that a text reads", y.needed(0), 15);
    }

    private void hanging() {
        s.about("HUNG: how many MODELS need a TRAIT.");
        TraitHouse x = Check.house("1", "trait 0", "3");
        s.due("no model", x.hung(0), 0);
        x.model(1);
        x.model(2);
        x.model(3);
        x.model(0);
        s.due("of 0", x.hung(0), 3);
        s.due("of 1", x.hung(1), 2);
        s.due("of 2", x.hung(2), 0);
        for (int i = 4; i < 10; i++) {
            x.model(7);
        }
        s.due("of 0 at last", x.hung(0), 9);
        s.due("of 2 at last", x.hung(2), 6);
    }

    private void shiftsNumbers() {
        s.about("SHIFT of a TRAIT between two MOMENTS, by four bounds (three numbers that don't fall):");
        TraitHouse x = Check.house("5");
        s.due("the same number thrice", x.shift(0, 0, 1, 7, 7, 7, 1), 1);
        s.due("rising", x.shift(0, 0, 1, 1, 2, 3, 1), 1);
        s.due("the first falls", x.shift(0, 0, 1, 2, 1, 3, 1), -1);
        s.due("the second falls", x.shift(0, 0, 1, 1, 3, 2, 1), -1);
        s.due("the widest", x.shift(0, 0, 1, Long.MIN_VALUE, 0, Long.MAX_VALUE, 1), 1);
        s.due("the widest falls", x.shift(0, 0, 1, Long.MAX_VALUE, Long.MIN_VALUE, Long.MIN_VALUE, 1), -1);
        s.due("the widest falls later", x.shift(0, 0, 1, Long.MIN_VALUE, Long.MAX_VALUE, Long.MIN_VALUE, 1), -1);
        s.due("the same moment twice", x.shift(0, 4, 4, 1, 2, 3, 0), 0);
    }

    /** Person 0 has one value at 1, another one at 2: whether both fall into one heap. */
    private void oneHeap(long first, long second, boolean same) {
        TraitHouse x = Check.house("last 0");
        x.row(0, 0, 1, 1, (int) first);
        x.row(0, 0, 2, 2, (int) second);
        s.due(first + " and " + second, x.shift(0, 1, 2, -10, 0, 10, 0), same ? 0 : 1);
    }

    private void heaps() {
        s.about("the people who aren't ERASED fall by their TEACHING values (LACKS aside) into four heaps:"
                + " below the first, below the second, below the third, the others.");
        oneHeap(-1000000, -11, true);
        oneHeap(-11, -10, false);
        oneHeap(-10, -1, true);
        oneHeap(-1, 0, false);
        oneHeap(0, 9, true);
        oneHeap(9, 10, false);
        oneHeap(10, 1000000, true);
        TraitHouse x = Check.house("last 0");
        x.row(0, 0, 1, 1, 5);
        x.row(1, 0, 1, 1, 15);
        x.row(2, 0, 2, 2, 25);
        s.due("LACKS aside", x.shift(0, 1, 2, 10, 20, 30, 1), 3);
        s.due("LACKS aside, upper", x.shift(0, 1, 2, 10, 20, 30, 0), 1);
        x.erase(2);
        s.due("without the erased one", x.shift(0, 1, 2, 10, 20, 30, 0), 0);
        s.due("nobody falls", x.shift(0, 0, 2, 10, 20, 30, 0), -6);
    }

    private void shares() {
        s.about("With p the shares of heaps at one MOMENT, q at the other: the sum of the differences of p and q above 0,"
                + " as a fraction in lowest terms.");
        TraitHouse x = Check.house("last 0");
        for (int person = 0; person < 20; person++) {
            x.row(person, 0, 1, 1, person % 4 * 10);
            x.row(person, 0, 2, 2, person < 13 ? 0 : 10);
            x.row(person, 0, 3, 3, 30);
        }
        s.due("1 and 2, upper", x.shift(0, 1, 2, 10, 20, 30, 0), 1);
        s.due("1 and 2, lower", x.shift(0, 1, 2, 10, 20, 30, 1), 2);
        s.due("2 and 1, upper", x.shift(0, 2, 1, 10, 20, 30, 0), 1);
        s.due("2 and 1, lower", x.shift(0, 2, 1, 10, 20, 30, 1), 2);
        s.due("all, upper", x.shift(0, 2, 3, 10, 20, 30, 0), 1);
        s.due("all, lower", x.shift(0, 2, 3, 10, 20, 30, 1), 1);
        s.due("none, upper", x.shift(0, 3, 3, 10, 20, 30, 0), 0);
        s.due("none, lower", x.shift(0, 3, 3, 10, 20, 30, 1), 1);
        TraitHouse y = Check.house("last 0");
        for (int person = 0; person < 20; person++) {
            y.row(person, 0, person < 19 ? 1 : 2, person < 19 ? 1 : 2, person < 7 ? 0 : 10);
            y.row(person, 0, 2, 2, person < 13 ? 0 : 10);
        }
        s.due("nineteen and twenty, upper", y.shift(0, 1, 2, 10, 20, 30, 0), 12 * 20 - 7 * 19);
        s.due("nineteen and twenty, lower", y.shift(0, 1, 2, 10, 20, 30, 1), 380);
    }

    private void constants() {
        s.about("The constants: NONE = -1: There is none.");
        s.due("NONE", TraitHouse.NONE, -1);
        s.about("LACK = -9000000000000000000L: No value.");
        s.due("LACK", TraitHouse.LACK, -9000000000000000000L);
    }
}
