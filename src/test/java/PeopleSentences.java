/** Term I, sentence by sentence: moments, people, rows, merges, erased people, what a call is refused by. */
final class PeopleSentences {
    private static final long LACK = TraitHouse.LACK;
    private static final int NONE = TraitHouse.NONE;
    private static final int LEAST = Integer.MIN_VALUE;
    private static final int MOST = Integer.MAX_VALUE;
    private static final int[] NO_MOMENTS = {-1, 100001, LEAST, MOST};
    private static final int[] NO_PEOPLE = {-1, 20, LEAST, MOST};

    private final Sentences s;

    PeopleSentences(Sentences s) {
        this.s = s;
    }

    void run() {
        moments();
        noMoments();
        nowAtFirst();
        people();
        noPeople();
        fullRows();
        streams();
        whenKnown();
        values();
        nineteenMerges();
        anotherOne();
        toldOnce();
        rings();
        leading();
        ones();
        rowsOfErased();
        keptOfErased();
        mergesOfErased();
        codes();
        orderOfCodes();
    }

    private void moments() {
        s.about("MOMENTS 0 .. 100,000;");
        TraitHouse x = Check.house("7");
        s.due("row at 0", x.row(0, 0, 0, 0, 1), 0);
        s.due("row at 100000", x.row(0, 0, 100000, 100000, 1), 1);
        s.due("row from 0 to 100000", x.row(0, 0, 0, 100000, 1), 2);
        s.due("merge at 0", x.merge(0, 1, 0), 1);
        s.due("merge at 100000", x.merge(1, 2, 100000), 2);
        s.due("leads at 0", x.leads(0, 0), 1);
        s.due("leads at 100000", x.leads(0, 100000), 2);
        s.due("value at 0", x.value(0, 0, 0, 0), 7);
        s.due("value at 100000", x.value(0, 0, 100000, 100000), 7);
        s.due("now(0)", x.now(0), 0);
        s.due("fill at 0", x.fill(0, 0, 0, 1), 20);
        s.due("now(100000)", x.now(100000), 0);
        s.due("fill at 100000", x.fill(0, 100000, 100000, 1), 20);
        s.due("fill at both", x.fill(0, 0, 100000, 100000), 40);
        s.due("history at 0", x.history(0, 0, 0), 7);
        s.due("history at 100000", x.history(0, 0, 100000), 7);
        s.due("told at 0", x.told(0, 0, 0, 0), 0);
        s.due("told at 100000", x.told(0, 0, 100000, 0), 100000);
        s.due("shift", x.shift(0, 0, 100000, 0, 0, 0, 1), 1);
        s.due("freshen at 100000", x.freshen(0), 0);
        s.due("age at 100000", x.age(0, 0, 0), 100000);
    }

    private void noMoments() {
        for (int no : NO_MOMENTS) {
            TraitHouse x = Check.house("7");
            x.now(100000);
            x.freshen(0);
            x.fill(0, 0, 0, 1);
            s.refused(x, "now(" + no + ")", x.now(no), -1);
            s.refused(x, "row, moment " + no, x.row(0, 0, no, 100000, 1), -1);
            s.refused(x, "row, moment and known " + no, x.row(0, 0, no, no, 1), -1);
            s.refused(x, "row, known " + no, x.row(0, 0, 0, no, 1), -1);
            s.refused(x, "merge, known " + no, x.merge(0, 1, no), -1);
            s.refused(x, "fill, a " + no, x.fill(0, no, 100000, 100000), -1);
            s.refused(x, "fill, b " + no, x.fill(0, 0, no, 100000), -1);
            s.refused(x, "fill, a and b " + no, x.fill(0, no, no, 1), -1);
            s.due("leads, known " + no, x.leads(0, no), NONE);
            s.due("value, moment " + no, x.value(0, 0, no, 0), LACK);
            s.due("value, known " + no, x.value(0, 0, 0, no), LACK);
            s.due("history, moment " + no, x.history(0, 0, no), LACK);
            s.due("told, moment " + no, x.told(0, 0, no, 0), NONE);
            s.due("told, moment " + no + ", what 1", x.told(0, 0, no, 1), NONE);
            s.due("shift, one " + no, x.shift(0, no, 0, 0, 0, 0, 1), -1);
            s.due("shift, other " + no, x.shift(0, 0, no, 0, 0, 0, 1), -1);
            s.due("NOW", x.count(0), 100000);
            s.due("ROWS", x.count(1), 0);
            s.due("MERGES", x.count(2), 0);
            s.due("places", x.count(6), 40);
        }
    }

    private void nowAtFirst() {
        s.about("NOW is 0 at first.");
        TraitHouse x = Check.house("7");
        s.due("count(0)", x.count(0), 0);
        s.due("fill behind it", x.fill(0, 0, 1, 1), -1);
        s.due("fill at it", x.fill(0, 0, 0, 1), 20);
        x.freshen(0);
        s.due("a value is made at it", x.age(0, 0, 0), 0);
    }

    private void people() {
        s.about("PEOPLE 0 .. 19, all there.");
        TraitHouse x = Check.house("last 0");
        x.model(1);
        for (int person = 0; person < 20; person++) {
            String who = " of " + person;
            s.due("leads" + who, x.leads(person, 0), person);
            s.due("row" + who, x.row(person, 0, 0, 0, 100 + person), person);
            s.due("value" + who, x.value(0, person, 0, 0), 100 + person);
        }
        x.freshen(0);
        for (int person = 0; person < 20; person++) {
            String who = " of " + person;
            s.due("kept" + who, x.kept(0, person), 100 + person);
            s.due("age" + who, x.age(0, person, 0), 0);
            s.due("history" + who, x.history(0, person, 0), 100 + person);
            s.due("told" + who, x.told(0, person, 0, 1), 0);
            s.due("misses" + who, x.misses(0, person), 0);
        }
        s.due("merge 0 and 19", x.merge(0, 19, 0), 1);
        s.due("merge 19 and 1", x.merge(19, 1, 0), 2);
        for (int person = 0; person < 20; person++) {
            s.due("erase(" + person + ")", x.erase(person), 1);
        }
    }

    private void noPeople() {
        for (int no : NO_PEOPLE) {
            TraitHouse x = Check.house("5", "6", "7");
            x.freshen(0);
            x.freshen(1);
            x.freshen(2);
            x.model(2);
            s.refused(x, "row of " + no, x.row(no, 0, 0, 0, 1), -2);
            s.refused(x, "merge of " + no, x.merge(no, 1, 0), -2);
            s.refused(x, "merge to " + no, x.merge(1, no, 0), -2);
            s.refused(x, "merge of and to " + no, x.merge(no, no, 0), -2);
            s.refused(x, "erase(" + no + ")", x.erase(no), -2);
            s.due("leads of " + no, x.leads(no, 0), NONE);
            s.due("value of " + no, x.value(1, no, 0, 0), LACK);
            s.due("kept of " + no, x.kept(1, no), LACK);
            s.due("age of " + no, x.age(1, no, 0), NONE);
            s.due("stale of " + no, x.age(1, no, 1), NONE);
            s.due("history of " + no, x.history(1, no, 0), LACK);
            s.due("told of " + no, x.told(1, no, 0, 0), NONE);
            s.due("told of " + no + ", what 1", x.told(1, no, 0, 1), NONE);
            s.due("misses of " + no, x.misses(0, no), NONE);
            s.due("ROWS", x.count(1), 0);
            s.due("MERGES", x.count(2), 0);
            s.due("ERASED people", x.count(3), 0);
        }
    }

    private void fullRows() {
        s.about("ROWS, 400 at most:");
        TraitHouse x = Check.house("count 0 from 0 to 0", "last 0");
        for (int i = 0; i < 400; i++) {
            s.due("row " + i, x.row(0, 0, 5, 5, i), i);
        }
        s.refused(x, "row 400", x.row(0, 0, 5, 5, 400), -5);
        s.refused(x, "row 400 of another one", x.row(1, 5, 6, 7, 8), -5);
        s.due("ROWS", x.count(1), 400);
        s.due("all of them are there", x.value(0, 0, 5, 5), 400);
        s.due("the last of them", x.value(1, 0, 5, 5), 399);
        s.due("none of another one", x.value(0, 1, 7, 7), 0);
    }

    private void streams() {
        s.about("a person, a STREAM 0 .. 5,");
        TraitHouse x = Check.house("last 0", "last 1", "last 2", "last 3", "last 4", "last 5");
        for (int stream = 0; stream < 6; stream++) {
            s.due("row of stream " + stream, x.row(3, stream, 0, 0, 10 + stream), stream);
        }
        for (int stream = 0; stream < 6; stream++) {
            s.due("last " + stream, x.value(stream, 3, 0, 0), 10 + stream);
            s.due("last " + stream + " of another person", x.value(stream, 4, 0, 0), LACK);
        }
        for (int no : new int[] {-1, 6, LEAST, MOST}) {
            s.refused(x, "row of stream " + no, x.row(3, no, 0, 0, 1), -1);
        }
        s.due("ROWS", x.count(1), 6);
    }

    private void whenKnown() {
        s.about("the MOMENT at which it came about, the MOMENT from which it is known (not ahead of that),");
        TraitHouse x = Check.house("count 0 from 0 to 0");
        s.refused(x, "known one ahead", x.row(0, 0, 8, 7, 1), -1);
        s.refused(x, "known far ahead", x.row(0, 0, 100000, 0, 1), -1);
        s.due("known at once", x.row(0, 0, 8, 8, 1), 0);
        s.due("known one behind", x.row(1, 0, 8, 9, 1), 1);
        s.due("it came about at 8", x.value(0, 0, 8, 8), 1);
        s.due("not at 7", x.value(0, 0, 7, 8), 0);
        s.due("not at 9", x.value(0, 0, 9, 8), 0);
        s.due("it is known from 8 on", x.value(0, 0, 8, 7), 0);
        s.due("the other is known from 9 on", x.value(0, 1, 8, 8), 0);
        s.due("and then", x.value(0, 1, 8, 9), 1);
    }

    private void values() {
        s.about("a VALUE (-1,000,000 .. 1,000,000).");
        TraitHouse x = Check.house("last 0");
        s.due("1000000", x.row(0, 0, 0, 0, 1000000), 0);
        s.due("it is seen", x.value(0, 0, 0, 0), 1000000);
        s.due("-1000000", x.row(0, 0, 0, 0, -1000000), 1);
        s.due("that too", x.value(0, 0, 0, 0), -1000000);
        for (int no : new int[] {1000001, -1000001, LEAST, MOST}) {
            s.refused(x, "a row of " + no, x.row(0, 0, 0, 0, no), -1);
        }
        s.due("ROWS", x.count(1), 2);
        s.due("the last one is still", x.value(0, 0, 0, 0), -1000000);
    }

    private void nineteenMerges() {
        s.about("MERGES, 19 at most:");
        TraitHouse x = new TraitHouse();
        for (int i = 0; i < 19; i++) {
            s.due("merge " + i, x.merge(18 - i, 19, i), i + 1);
        }
        s.due("MERGES", x.count(2), 19);
        for (int i = 0; i < 20; i++) {
            s.refused(x, "19 is " + i, x.merge(19, i, 0), -4);
            s.due(i + " leads", x.leads(i, 100000), 19);
        }
        s.due("MERGES still", x.count(2), 19);
    }

    private void anotherOne() {
        s.about("a person is found to be another one, known from a MOMENT on;");
        TraitHouse x = new TraitHouse();
        s.refused(x, "itself", x.merge(4, 4, 6), -4);
        s.due("another one", x.merge(4, 5, 6), 1);
        s.due("ahead of it", x.leads(4, 5), 4);
        s.due("from it on", x.leads(4, 6), 5);
        s.due("the other one", x.leads(5, 6), 5);
    }

    private void toldOnce() {
        s.about("a person is told so once at most,");
        TraitHouse x = new TraitHouse();
        s.due("4 is 5", x.merge(4, 5, 6), 1);
        s.refused(x, "4 is 5 once more", x.merge(4, 5, 6), -4);
        s.refused(x, "4 is 5, known earlier", x.merge(4, 5, 0), -4);
        s.refused(x, "4 is 6", x.merge(4, 6, 7), -4);
        s.due("nothing came of it", x.leads(4, 5), 4);
        s.due("nor later", x.leads(4, 100000), 5);
        s.due("MERGES", x.count(2), 1);
        s.due("5 may be told", x.merge(5, 6, 7), 2);
        s.due("another one to 5 too", x.merge(7, 5, 7), 3);
    }

    private void rings() {
        s.about("and never to be one that it leads to itself (in whatever order it became known).");
        TraitHouse x = new TraitHouse();
        x.merge(0, 1, 90);
        s.refused(x, "two, known ahead", x.merge(1, 0, 0), -4);
        s.refused(x, "two, known behind", x.merge(1, 0, 100000), -4);
        x.merge(1, 2, 10);
        s.refused(x, "three, known ahead", x.merge(2, 0, 0), -4);
        s.refused(x, "three, between", x.merge(2, 0, 50), -4);
        s.refused(x, "three, known behind", x.merge(2, 0, 100000), -4);
        s.due("MERGES", x.count(2), 2);
        TraitHouse y = new TraitHouse();
        for (int i = 0; i < 19; i++) {
            y.merge(i, i + 1, 100000 - i);
        }
        for (int i = 0; i < 20; i++) {
            s.refused(y, "the longest ring, to " + i, y.merge(19, i, 0), -4);
        }
    }

    private void leading() {
        s.about("As known at a MOMENT k a person LEADS over all MERGES known by then to another one,"
                + " and so on to the last;");
        TraitHouse x = new TraitHouse();
        x.merge(0, 1, 10);
        x.merge(1, 2, 30);
        x.merge(2, 3, 20);
        s.due("at 9", x.leads(0, 9), 0);
        s.due("at 10", x.leads(0, 10), 1);
        s.due("at 29 not over what isn't known", x.leads(0, 29), 1);
        s.due("at 30 to the last", x.leads(0, 30), 3);
        s.due("2 at 19", x.leads(2, 19), 2);
        s.due("2 at 20", x.leads(2, 20), 3);
        TraitHouse y = new TraitHouse();
        for (int i = 19; i > 0; i--) {
            y.merge(i, i - 1, 7);
        }
        for (int i = 0; i < 20; i++) {
            s.due(i + " leads at 6", y.leads(i, 6), i);
            s.due(i + " leads at 7", y.leads(i, 7), 0);
        }
    }

    private void ones() {
        s.about("all that lead to the same last one are ONE person as known at k, that one among them.");
        TraitHouse x = Check.house("sum 0 from 0 to 0");
        for (int person = 0; person < 5; person++) {
            x.row(person, 0, 0, 0, 1 << person);
        }
        x.merge(0, 2, 10);
        x.merge(1, 2, 10);
        x.merge(2, 3, 20);
        for (int person = 0; person < 3; person++) {
            s.due(person + " at 9", x.value(0, person, 0, 9), 1 << person);
            s.due(person + " at 10", x.value(0, person, 0, 10), 7);
            s.due(person + " at 20", x.value(0, person, 0, 20), 15);
        }
        s.due("3 at 19", x.value(0, 3, 0, 19), 8);
        s.due("3 at 20", x.value(0, 3, 0, 20), 15);
        s.due("4 is nobody else", x.value(0, 4, 0, 100000), 16);
    }

    private void rowsOfErased() {
        s.about("ERASED people: their ROWS are gone for ever,");
        TraitHouse x = Check.house("count 0 from 9 to 0");
        x.row(0, 0, 1, 1, 1);
        x.row(1, 0, 1, 1, 1);
        x.row(0, 0, 2, 2, 1);
        x.merge(0, 1, 5);
        s.due("erase(0)", x.erase(0), 2);
        s.due("ROWS", x.count(1), 1);
        s.due("of it", x.value(0, 0, 4, 4), 0);
        s.due("of the one that it is", x.value(0, 1, 5, 5), 1);
        s.due("at an earlier moment too", x.value(0, 0, 1, 1), 0);
        s.refused(x, "no row comes back", x.row(0, 0, 1, 1, 1), -6);
        s.due("ROWS still", x.count(1), 1);
        rowsOfOthers();

        TraitHouse y = new TraitHouse();
        for (int i = 0; i < 400; i++) {
            y.row(i % 2, 0, 0, 0, 0);
        }
        s.due("full", y.row(1, 0, 0, 0, 0), -5);
        s.due("erase(0) of a full house", y.erase(0), 200);
        s.due("what is gone takes no room", y.row(1, 0, 0, 0, 0), 400);
        for (int i = 401; i < 420; i++) {
            s.due("and on", y.row(1, 0, 0, 0, 0), i);
        }
        s.due("ROWS that there are", y.count(1), 220);
    }

    private void rowsOfOthers() {
        TraitHouse x = Check.house("last 1", "age 1", "last 4", "age 4");
        x.row(0, 0, 1, 1, 10);
        x.row(2, 1, 2, 5, 20);
        x.row(0, 2, 3, 3, 30);
        x.row(2, 4, 4, 4, 40);
        s.due("erase(0) among others", x.erase(0), 2);
        s.due("the value of another one's row", x.value(0, 2, 9, 9), 20);
        s.due("its moment", x.value(1, 2, 9, 9), 7);
        s.due("from when it is known", x.value(0, 2, 9, 4), LACK);
        s.due("the value of the other row", x.value(2, 2, 9, 9), 40);
        s.due("the moment of the other row", x.value(3, 2, 9, 9), 5);
    }

    private void keptOfErased() {
        s.about("KEPT values and HISTORY are gone (places of it stay taken),");
        TraitHouse x = Check.house("5", "6");
        x.model(3);
        x.freshen(0);
        x.freshen(1);
        x.fill(0, 0, 0, 1);
        x.erase(3);
        for (int trait = 0; trait < 2; trait++) {
            s.due("kept of " + trait, x.kept(trait, 3), LACK);
            s.due("age of " + trait, x.age(trait, 3, 0), NONE);
            s.due("stale of " + trait, x.age(trait, 3, 1), NONE);
            s.due("history of " + trait, x.history(trait, 3, 100000), LACK);
            s.due("told of " + trait, x.told(trait, 3, 100000, 0), NONE);
            s.due("filled of " + trait, x.told(trait, 3, 100000, 1), NONE);
            s.due("kept of " + trait + " and 2", x.kept(trait, 2), 5 + trait);
            s.due("history of " + trait + " and 4", x.history(trait, 4, 0), 5 + trait);
        }
        s.due("misses", x.misses(0, 3), 2);
        s.due("misses of another one", x.misses(0, 2), 0);
        s.due("places stay taken", x.count(6), 60);
        for (int person : new int[] {0, 19}) {
            x.erase(person);
            s.due("history of " + person, x.told(0, person, 100000, 0), NONE);
            s.due("history of " + person + ", the other trait", x.told(1, person, 100000, 0), NONE);
            s.due("kept of " + person, x.age(1, person, 0), NONE);
        }
        s.due("the next one's stays", x.told(0, 1, 100000, 0), 0);
        s.due("the one's ahead too", x.told(1, 18, 100000, 0), 0);

        TraitHouse y = Check.house("5");
        y.now(200);
        y.fill(0, 1, 40, 1);
        y.fill(0, 41, 80, 1);
        y.fill(0, 81, 100, 1);
        s.due("full", y.count(6), 2000);
        y.erase(0);
        s.due("full still", y.count(6), 2000);
        s.refused(y, "no room", y.fill(0, 1, 1, 1), -5);
        y.freshen(0);
        s.due("nothing new", y.told(0, 1, 200, 0), 100);
    }

    private void mergesOfErased() {
        s.about("MERGES stay.");
        TraitHouse x = Check.house("sum 0 from 9 to 0");
        x.row(0, 0, 0, 0, 1);
        x.row(2, 0, 0, 0, 4);
        x.merge(0, 1, 5);
        x.merge(1, 2, 5);
        x.erase(1);
        s.due("MERGES", x.count(2), 2);
        s.due("over it", x.leads(0, 5), 2);
        s.due("of it", x.leads(1, 5), 2);
        s.due("they are ONE", x.value(0, 0, 5, 5), 5);
        s.refused(x, "told once still", x.merge(1, 3, 6), -4);
        s.refused(x, "round still", x.merge(2, 0, 6), -4);
        x.erase(2);
        s.due("of an erased last one", x.leads(0, 5), 2);
        s.due("its rows are gone", x.value(0, 0, 5, 5), 1);
    }

    private void codes() {
        s.about("REFUSED by: -1 a number that can't be; -2 there is no such TRAIT, person, MODEL; -3 it leaks;"
                + " -4 twice, or round; -5 no room; -6 a text that can't be, or it is ERASED.");
        TraitHouse x = Check.house("1");
        s.refused(x, "a number", x.limit(0, -1), -1);
        s.refused(x, "a trait", x.limit(1, 1), -2);
        s.refused(x, "a person", x.erase(20), -2);
        s.refused(x, "a leak", Check.trait(x, "sum 0 from 0 to 0 ahead"), -3);
        x.merge(0, 1, 0);
        s.refused(x, "twice", x.merge(0, 1, 0), -4);
        s.refused(x, "round", x.merge(1, 0, 0), -4);
        for (int i = 0; i < 10; i++) {
            x.model(1);
        }
        s.refused(x, "room", x.model(1), -5);
        s.refused(x, "a text", Check.trait(x, "?"), -6);
        x.erase(0);
        s.refused(x, "erased", x.row(0, 0, 0, 0, 0), -6);
        s.refused(x, "erased twice", x.erase(0), -6);
    }

    private void orderOfCodes() {
        s.about("The first of these in that order.");
        TraitHouse x = Check.house("1");
        x.erase(1);
        s.refused(x, "row: a number, no person", x.row(20, 0, 0, 0, 1000001), -1);
        s.refused(x, "row: a number, erased", x.row(1, 6, 0, 0, 0), -1);
        x.merge(0, 1, 0);
        s.refused(x, "merge: a number, no person", x.merge(20, 0, -1), -1);
        s.refused(x, "merge: a number, twice", x.merge(0, 1, -1), -1);
        s.refused(x, "merge: a number, itself", x.merge(2, 2, 100001), -1);
        s.refused(x, "merge: no person, itself", x.merge(20, 20, 0), -2);
        s.refused(x, "merge: no person, twice", x.merge(0, 20, 0), -2);
        s.refused(x, "law: a number, no trait", x.law(1, 2, 1), -1);
        s.refused(x, "limit: a number, no trait", x.limit(1, -1), -1);
        s.refused(x, "fill: a number, no trait", x.fill(1, 0, 1, 1), -1);
        s.due("shift: a number, no trait", x.shift(1, 0, 0, 1, 0, 1, 0), -1);

        TraitHouse lone = Check.house("last 0");
        s.due("shift: a number, nobody", lone.shift(0, 0, 0, 1, 0, 1, 0), -1);
        s.due("shift: no trait, nobody", lone.shift(1, 0, 0, 0, 0, 0, 0), -2);

        TraitHouse full = Check.house("1");
        full.erase(1);
        for (int i = 0; i < 400; i++) {
            full.row(0, 0, 0, 0, 0);
        }
        s.refused(full, "row: a number, no room", full.row(0, 0, 1, 0, 0), -1);
        s.refused(full, "row: no person, no room", full.row(20, 0, 0, 0, 0), -2);
        s.refused(full, "row: no room, erased", full.row(1, 0, 0, 0, 0), -5);
        s.refused(full, "row: a number, no person, no room", full.row(20, -1, 0, 0, 0), -1);
        for (int i = 0; i < 10; i++) {
            full.model(1);
        }
        s.refused(full, "model: a number, no room", full.model(2), -1);
        full.now(1000);
        full.fill(0, 0, 39, 1);
        full.fill(0, 0, 39, 1);
        s.refused(full, "fill: a number, no room", full.fill(0, 0, 40, 1), -1);
        s.refused(full, "fill: no trait, no room", full.fill(1, 0, 39, 1), -2);
        s.refused(full, "fill: no room", full.fill(0, 0, 39, 1), -5);
    }
}
