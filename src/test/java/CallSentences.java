/** Promises 1 to 27, sentence by sentence. */
final class CallSentences {
    private static final long LACK = TraitHouse.LACK;
    private static final int NONE = TraitHouse.NONE;
    private static final int LEAST = Integer.MIN_VALUE;
    private static final int MOST = Integer.MAX_VALUE;
    /** Of a house with two traits. */
    private static final int[] NO_TRAITS = {-1, 2, 19, 20, 32, LEAST, MOST};
    private static final int[] NO_WHATS = {-1, 2, LEAST, MOST};

    private final Sentences s;

    CallSentences(Sentences s) {
        this.s = s;
    }

    void run() {
        manyCalls();
        newObject();
        now();
        row();
        merge();
        leads();
        erase();
        feed();
        end();
        trait();
        traitRefused();
        fault();
        value();
        law();
        limit();
        freshen();
        kept();
        age();
        held();
        fill();
        fillRefused();
        history();
        told();
        model();
        needed();
        hung();
        misses();
        shift();
        shiftRefused();
        count();
        status();
    }

    private void manyCalls() {
        s.about("An object is used for at most 512 calls after it has been made; what later calls answer is free.");
        TraitHouse x = new TraitHouse();
        for (int call = 1; call <= 512; call++) {
            s.due("call " + call, call % 2 == 0 ? x.count(0) : x.now(call / 2), call % 2 == 0 ? call / 2 - 1 : 0);
        }
    }

    private void newObject() {
        s.about("TraitHouse(): No ROWS, TRAITS, MODELS.");
        TraitHouse used = Check.house("1");
        used.row(0, 0, 0, 0, 0);
        used.merge(0, 1, 0);
        used.model(1);
        used.freshen(0);
        used.now(5);
        used.erase(3);
        used.feed(0, 0, 0, 0, 0);
        TraitHouse x = new TraitHouse();
        for (int what = 0; what < 8; what++) {
            s.due("count(" + what + ")", x.count(what), 0);
        }
        s.due("value", x.value(0, 0, 0, 0), LACK);
        s.due("needed", x.needed(0), 0);
        s.due("misses", x.misses(0, 0), NONE);
        s.due("hung", x.hung(0), NONE);
        s.due("the first row", x.row(0, 0, 0, 0, 0), 0);
        s.due("the first merge", x.merge(1, 0, 0), 1);
        s.due("the first trait", Check.trait(x, "1"), 0);
        s.due("the first model", x.model(1), 0);
    }

    private void now() {
        s.about("int now(int moment): NOW becomes a MOMENT not ahead of it: 0; -1.");
        TraitHouse x = new TraitHouse();
        s.refused(x, "now(-1)", x.now(-1), -1);
        s.due("now(0)", x.now(0), 0);
        s.due("now(5)", x.now(5), 0);
        s.due("NOW", x.count(0), 5);
        s.due("now(5) again", x.now(5), 0);
        s.refused(x, "now(4)", x.now(4), -1);
        s.refused(x, "now(0) again", x.now(0), -1);
        s.refused(x, "now(100001)", x.now(100001), -1);
        s.due("NOW still", x.count(0), 5);
        s.due("now(100000)", x.now(100000), 0);
        s.refused(x, "now(99999)", x.now(99999), -1);
        s.due("now(100000) again", x.now(100000), 0);
    }

    private void row() {
        s.about("int row(int person, int stream, int moment, int known, int value): A ROW: its number.");
        TraitHouse x = Check.house("last 3");
        s.due("the first", x.row(7, 3, 1, 2, -4), 0);
        s.refused(x, "a refused one takes no number", x.row(7, 6, 1, 2, -4), -1);
        s.due("the second", x.row(7, 3, 1, 2, -4), 1);
        s.due("alike ones are two", x.count(1), 2);
        x.erase(7);
        s.due("numbers go on", x.row(8, 3, 1, 2, -4), 2);
        s.about("-1 (known ahead of its MOMENT);");
        s.refused(x, "known ahead", x.row(8, 3, 2, 1, 0), -1);
        s.refused(x, "stream", x.row(8, 6, 1, 2, 0), -1);
        s.refused(x, "moment", x.row(8, 3, -1, 2, 0), -1);
        s.refused(x, "known", x.row(8, 3, 1, 100001, 0), -1);
        s.refused(x, "value", x.row(8, 3, 1, 2, 1000001), -1);
        s.due("ROWS", x.count(1), 1);
        s.about("-2; -5; -6 the person is ERASED.");
        s.refused(x, "no person", x.row(20, 3, 1, 2, 0), -2);
        s.refused(x, "erased", x.row(7, 3, 1, 2, 0), -6);
        for (int i = 0; i < 399; i++) {
            x.row(9, 3, 1, 2, 0);
        }
        s.due("full", x.count(1), 400);
        s.refused(x, "no room", x.row(9, 3, 1, 2, 0), -5);
    }

    private void merge() {
        s.about("int merge(int a, int b, int known): Person a is found to be b: how many MERGES there are.");
        TraitHouse x = new TraitHouse();
        s.due("the first", x.merge(2, 9, 4), 1);
        s.due("a leads to b", x.leads(2, 4), 9);
        s.due("b to itself", x.leads(9, 4), 9);
        s.due("the second", x.merge(9, 3, 4), 2);
        s.due("MERGES", x.count(2), 2);
        s.about("-1 a MOMENT; -2; -4 (also a = b).");
        s.refused(x, "moment -1", x.merge(5, 6, -1), -1);
        s.refused(x, "moment 100001", x.merge(5, 6, 100001), -1);
        s.refused(x, "no person a", x.merge(-1, 6, 0), -2);
        s.refused(x, "no person b", x.merge(5, 20, 0), -2);
        s.refused(x, "a = b", x.merge(5, 5, 0), -4);
        s.refused(x, "a = b, which is told already", x.merge(2, 2, 0), -4);
        s.refused(x, "twice", x.merge(2, 5, 0), -4);
        s.refused(x, "round", x.merge(3, 2, 0), -4);
        s.due("MERGES still", x.count(2), 2);
        s.due("the third", x.merge(5, 6, 0), 3);
    }

    private void leads() {
        s.about("int leads(int person, int known): To whom a person LEADS at last as known at a MOMENT; NONE.");
        TraitHouse x = new TraitHouse();
        s.due("itself", x.leads(4, 0), 4);
        x.merge(4, 5, 0);
        x.merge(5, 6, 100000);
        s.due("at 0", x.leads(4, 0), 5);
        s.due("at 99999", x.leads(4, 99999), 5);
        s.due("at 100000", x.leads(4, 100000), 6);
        s.due("no person", x.leads(20, 0), NONE);
        s.due("person -1", x.leads(-1, 0), NONE);
        s.due("no moment", x.leads(4, 100001), NONE);
        s.due("moment -1", x.leads(4, -1), NONE);
        s.due("NOW doesn't matter", x.count(0), 0);
    }

    private void erase() {
        s.about("int erase(int person): A person is ERASED: how many ROWS went. -2; -6 (twice).");
        TraitHouse x = new TraitHouse();
        x.row(1, 0, 0, 0, 0);
        x.row(2, 0, 0, 0, 0);
        x.row(1, 5, 9, 9, 9);
        s.due("without rows", x.erase(0), 0);
        s.due("with two", x.erase(1), 2);
        s.refused(x, "twice", x.erase(1), -6);
        s.refused(x, "twice, without rows", x.erase(0), -6);
        s.refused(x, "no person", x.erase(20), -2);
        s.refused(x, "person -1", x.erase(-1), -2);
        s.due("ERASED people", x.count(3), 2);
        s.due("ROWS", x.count(1), 1);
        for (int i = 2; i < 20; i++) {
            s.due("erase(" + i + ")", x.erase(i), i == 2 ? 1 : 0);
        }
        s.due("all are ERASED", x.count(3), 20);
        s.refused(x, "erase(19) again", x.erase(19), -6);
    }

    private void feed() {
        s.about("int feed(int a, int b, int c, int d, int e): Twenty bytes come behind the TAPE, four of each number,"
                + " the highest first: how many it has.");
        TraitHouse x = new TraitHouse();
        s.due("twenty", x.feed(0x31303030, 0x30302B32, 0x30303030, 0x302B3330, 0x30302B34), 20);
        s.due("forty", x.feed(0x30302020, 0x20202020, 0x20202020, 0x20202020, 0x20202020), 40);
        s.due("100000+200000+3000+400", x.trait(), 0);
        s.due("their order", x.value(0, 0, 0, 0), 100000 + 200000 + 3000 + 400);
        s.due("behind an end", x.feed(0x312B2B2B, 0, 0, 0, 0), 20);
        x.end(1);
        s.due("twenty-one", x.feed(0x35202020, 0x20202020, 0x20202020, 0x20202020, 0x20202020), 21);
        s.due("15", x.trait(), 1);
        s.due("right behind it", x.value(1, 0, 0, 0), 15);
        x.feed(-1, LEAST, 0, 0, 0);
        s.due("numbers below 0 are bytes too", x.trait(), -6);
        s.due("their fault", x.fault(), 0);
        s.about("NONE, if there would be more than 200.");
        for (int i = 1; i <= 10; i++) {
            s.due("feed " + i, x.feed(i, i, i, i, i), 20 * i);
        }
        s.due("feed 11", x.feed(0, 0, 0, 0, 0), NONE);
        s.due("200 stay", x.count(7), 200);
        x.end(181);
        s.due("201 would be", x.feed(0, 0, 0, 0, 0), NONE);
        s.due("181 stay", x.count(7), 181);
        x.end(180);
        s.due("200 may be", x.feed(0, 0, 0, 0, 0), 200);
    }

    private void end() {
        s.about("int end(int n): The TAPE has its first n bytes alone: n.");
        TraitHouse x = new TraitHouse();
        s.due("none of none", x.end(0), 0);
        x.feed(0x31322B2B, 0, 0, 0, 0);
        s.due("all", x.end(20), 20);
        s.due("two", x.end(2), 2);
        s.due("bytes", x.count(7), 2);
        s.due("12", x.trait(), 0);
        s.due("the first ones", x.value(0, 0, 0, 0), 12);
        x.feed(0x31322B2B, 0, 0, 0, 0);
        s.due("none of twenty", x.end(0), 0);
        s.due("an empty tape", x.trait(), -6);
        s.due("its fault", x.fault(), 0);
        s.about("NONE, if it has not so many, or n is below 0.");
        s.due("one of none", x.end(1), NONE);
        x.feed(0, 0, 0, 0, 0);
        s.due("21 of 20", x.end(21), NONE);
        s.due("200 of 20", x.end(200), NONE);
        s.due("the most", x.end(MOST), NONE);
        s.due("-1", x.end(-1), NONE);
        s.due("the least", x.end(LEAST), NONE);
        s.due("bytes stay", x.count(7), 20);
        x.end(19);
        s.due("20 of 19", x.end(20), NONE);
        s.due("19 stay", x.count(7), 19);
    }

    private void trait() {
        s.about("int trait(): The TAPE, which is empty then, becomes a TRAIT: its number.");
        TraitHouse x = new TraitHouse();
        s.due("the first", Check.trait(x, "5"), 0);
        s.due("empty then", x.count(7), 0);
        s.due("the second", Check.trait(x, "6"), 1);
        s.due("nothing is left of the first", x.value(1, 0, 0, 0), 6);
        s.due("a fault", Check.trait(x, "?"), -6);
        s.due("empty behind a fault", x.count(7), 0);
        s.due("a leak", Check.trait(x, "sum 0 from 0 to 0 ahead"), -3);
        s.due("empty behind a leak", x.count(7), 0);
        s.due("the third", Check.trait(x, "7"), 2);
    }

    private void traitRefused() {
        s.about("-5 20 there are (ahead of reading it);");
        TraitHouse x = new TraitHouse();
        for (int i = 0; i < 19; i++) {
            Check.trait(x, "1");
        }
        s.refused(x, "19 there are", Check.trait(x, "1+?"), -6);
        s.due("trait 19", Check.trait(x, "1"), 19);
        s.refused(x, "20 there are", Check.trait(x, "1"), -5);
        s.refused(x, "ahead of a fault", Check.trait(x, "1+?"), -5);
        s.due("which is not read", x.fault(), NONE);
        s.refused(x, "ahead of a leak", Check.trait(x, "sum 0 from 0 to 0 ahead"), -5);
        s.refused(x, "of an empty tape", x.trait(), -5);
        s.due("TRAITS", x.count(4), 20);
        s.due("the tape is empty then, too", x.count(7), 0);
        s.about("-6 FAULT is told; -3 it LEAKS.");
        TraitHouse y = new TraitHouse();
        s.refused(y, "a fault", Check.trait(y, "1+?"), -6);
        s.due("it is told", y.fault(), 2);
        s.refused(y, "a leak", Check.trait(y, "sum 0 from 0 to 0 ahead"), -3);
        s.due("no fault is told", y.fault(), NONE);
        s.refused(y, "a fault behind a leak", Check.trait(y, "sum 0 from 0 to 0 ahead ?"), -6);
        s.due("that is told", y.fault(), 24);
        s.refused(y, "a fault ahead of a leak", Check.trait(y, "1 ? sum 0 from 0 to 0 ahead"), -6);
        s.due("that too", y.fault(), 2);
        s.due("TRAITS", y.count(4), 0);
    }

    private void fault() {
        s.about("int fault(): FAULT of the latest trait() that was read: its place; NONE without.");
        TraitHouse x = new TraitHouse();
        s.due("none was read", x.fault(), NONE);
        Check.trait(x, "1+2?");
        s.due("its place", x.fault(), 3);
        s.due("asked again", x.fault(), 3);
        Check.feed(x, "1?");
        s.due("what is fed is not read", x.fault(), 3);
        x.trait();
        s.due("the latest one", x.fault(), 1);
        Check.trait(x, "1");
        s.due("without", x.fault(), NONE);
        x.trait();
        s.due("of the empty text", x.fault(), 0);
        TraitHouse y = new TraitHouse();
        for (int i = 0; i < 19; i++) {
            Check.trait(y, "1");
        }
        Check.trait(y, "12345?");
        s.due("of the twentieth", y.fault(), 5);
        Check.trait(y, "1");
        Check.trait(y, "1?");
        s.due("one without room is not read", y.fault(), NONE);
    }

    private void value() {
        s.about("long value(int trait, int person, int moment, int known): A TRAIT of a person at a MOMENT as known at another one"
                + " (any, also ahead of that);");
        TraitHouse x = Check.house("sum 0 from 100 to 0", "9");
        x.row(0, 0, 10, 10, 1);
        x.row(0, 0, 20, 20, 2);
        x.row(0, 0, 20, 40, 4);
        s.due("known behind", x.value(0, 0, 20, 40), 7);
        s.due("known at once", x.value(0, 0, 20, 20), 3);
        s.due("known ahead", x.value(0, 0, 20, 10), 1);
        s.due("known far ahead", x.value(0, 0, 20, 0), LACK);
        s.due("behind NOW", x.value(1, 0, 100000, 100000), 9);
        s.about("LACK (also where there is no such TRAIT, person, MOMENT).");
        for (int no : NO_TRAITS) {
            s.due("trait " + no, x.value(no, 0, 20, 20), LACK);
        }
        s.due("person 20", x.value(1, 20, 20, 20), LACK);
        s.due("person -1", x.value(1, -1, 20, 20), LACK);
        s.due("moment 100001", x.value(1, 0, 100001, 20), LACK);
        s.due("moment -1", x.value(1, 0, -1, 20), LACK);
        s.due("known 100001", x.value(1, 0, 20, 100001), LACK);
        s.due("known -1", x.value(1, 0, 20, -1), LACK);
    }

    private void law() {
        s.about("int law(int trait, long from, long to): LAW of a TRAIT: 0. -1 (from above to); -2.");
        TraitHouse x = Check.house("5", "6");
        s.due("from below to", x.law(0, 5, 6), 0);
        s.due("from is to", x.law(0, 5, 5), 0);
        s.refused(x, "from above to", x.law(0, 6, 5), -1);
        s.refused(x, "from far above to", x.law(0, Long.MAX_VALUE, Long.MIN_VALUE), -1);
        s.due("the refused ones are no law", x.freshen(0), 0);
        s.due("the widest", x.law(0, Long.MIN_VALUE, Long.MAX_VALUE), 0);
        for (int no : NO_TRAITS) {
            s.refused(x, "trait " + no, x.law(no, 0, 1), -2);
        }
        s.due("no law of another trait", x.freshen(1), 0);
    }

    private void limit() {
        s.about("int limit(int trait, int n): LIMIT of a TRAIT: what it was. -1; -2.");
        TraitHouse x = Check.house("5", "6");
        s.due("at first", x.limit(0, 7), 100000);
        s.due("what it was", x.limit(0, 8), 7);
        s.refused(x, "-1", x.limit(0, -1), -1);
        s.refused(x, "100001", x.limit(0, 100001), -1);
        for (int no : NO_TRAITS) {
            s.refused(x, "trait " + no, x.limit(no, 1), -2);
        }
        s.due("it stays", x.limit(0, 0), 8);
        s.due("0 is no refusal", x.limit(0, 0), 0);
        s.due("status", x.status(), 0);
        s.due("of another trait", x.limit(1, 0), 100000);
    }

    private void freshen() {
        s.about("int freshen(int trait): FRESHEN a TRAIT: how many values were HELD. -2.");
        TraitHouse x = Check.house("5", "last 0");
        s.due("none", x.freshen(0), 0);
        x.law(0, 0, 4);
        s.due("all", x.freshen(0), 20);
        x.erase(0);
        s.due("not of the erased one", x.freshen(0), 19);
        s.due("of this call alone", x.freshen(0), 19);
        for (int no : NO_TRAITS) {
            s.refused(x, "trait " + no, x.freshen(no), -2);
        }
        s.due("another trait is not made", x.age(1, 1, 0), NONE);
        s.about("(HISTORY that is full takes no more.)");
        TraitHouse y = Check.house("5");
        y.now(100);
        y.erase(0);
        y.fill(0, 0, 39, 1);
        y.fill(0, 40, 79, 1);
        y.fill(0, 80, 99, 1);
        s.due("places", y.count(6), 1900);
        for (int i = 1; i <= 5; i++) {
            s.due("freshen", y.freshen(0), 0);
            s.due("places", y.count(6), 1900 + 19 * i);
        }
        s.due("the last freshen with room for five", y.freshen(0), 0);
        s.due("full", y.count(6), 2000);
        y.now(101);
        s.due("freshen of a full one", y.freshen(0), 0);
        s.due("status", y.status(), 0);
        s.due("full still", y.count(6), 2000);
        s.due("kept all the same", y.age(0, 19, 0), 101);
        s.due("but not there", y.told(0, 19, 101, 0), 100);
    }

    private void kept() {
        s.about("long kept(int trait, int person): KEPT of a TRAIT and person; LACK (without, too).");
        TraitHouse x = Check.house("last 0", "6");
        x.row(0, 0, 0, 0, 5);
        s.due("without", x.kept(0, 0), LACK);
        x.freshen(0);
        x.freshen(1);
        s.due("of it", x.kept(0, 0), 5);
        s.due("a LACK", x.kept(0, 1), LACK);
        s.due("of another trait", x.kept(1, 0), 6);
        for (int no : NO_TRAITS) {
            s.due("trait " + no, x.kept(no, 0), LACK);
        }
        s.due("person 20", x.kept(1, 20), LACK);
        s.due("person -1", x.kept(1, -1), LACK);
        x.row(0, 0, 1, 1, 7);
        x.now(1);
        s.due("until it is made anew", x.kept(0, 0), 5);
        x.limit(0, 0);
        s.due("a stale one too", x.kept(0, 0), 5);
    }

    private void age() {
        s.about("int age(int trait, int person, int what): The MOMENT at which KEPT was made (what 0; NONE without),"
                + " 1 if it is STALE, else 0 (1; NONE without). NONE.");
        TraitHouse x = Check.house("5", "6");
        s.due("what 0 without", x.age(0, 0, 0), NONE);
        s.due("what 1 without", x.age(0, 0, 1), NONE);
        x.freshen(1);
        x.now(3);
        x.freshen(0);
        s.due("what 0", x.age(0, 0, 0), 3);
        s.due("what 0 at the first moment", x.age(1, 0, 0), 0);
        s.due("what 1", x.age(0, 0, 1), 0);
        x.limit(1, 2);
        s.due("what 1, stale", x.age(1, 0, 1), 1);
        for (int what : NO_WHATS) {
            s.due("what " + what, x.age(0, 0, what), NONE);
        }
        for (int no : NO_TRAITS) {
            s.due("trait " + no, x.age(no, 0, 0), NONE);
            s.due("trait " + no + ", what 1", x.age(no, 0, 1), NONE);
        }
        s.due("person 20", x.age(0, 20, 0), NONE);
        s.due("person -1", x.age(0, -1, 0), NONE);
    }

    private void held() {
        s.about("int held(int trait): HELD of a TRAIT in all; NONE.");
        TraitHouse x = Check.house("5", "6");
        s.due("at first", x.held(0), 0);
        x.law(0, 6, 6);
        x.freshen(0);
        x.freshen(0);
        s.due("in all", x.held(0), 40);
        s.due("of another trait", x.held(1), 0);
        for (int no : NO_TRAITS) {
            s.due("trait " + no, x.held(no), NONE);
        }
    }

    private void fill() {
        s.about("int fill(int trait, int a, int b, int d): FILL back: how many places it took.");
        TraitHouse x = Check.house("5", "6");
        x.now(10);
        s.due("one moment", x.fill(0, 10, 10, 1), 20);
        s.due("three moments", x.fill(0, 0, 10, 5), 60);
        x.erase(0);
        s.due("nineteen people", x.fill(1, 0, 1, 1), 38);
        s.due("places", x.count(6), 118);
        for (int person = 1; person < 19; person++) {
            x.erase(person);
        }
        s.due("one person, one moment", x.fill(1, 7, 7, 1), 1);
        s.due("its place", x.told(1, 19, 10, 0), 7);
        x.erase(19);
        s.due("nobody", x.fill(0, 0, 10, 1), 0);
        s.due("status", x.status(), 0);
        s.due("places still", x.count(6), 119);
    }

    private void fillRefused() {
        s.about("-1 (MOMENTS, b behind NOW, a behind b, d below 1, more than 40);");
        TraitHouse x = Check.house("5", "6");
        x.now(50);
        s.refused(x, "a -1", x.fill(0, -1, 0, 1), -1);
        s.refused(x, "b 100001", x.fill(0, 50, 100001, 100000), -1);
        s.refused(x, "b behind NOW", x.fill(0, 51, 51, 1), -1);
        s.refused(x, "b one behind NOW", x.fill(0, 20, 51, 1), -1);
        s.refused(x, "a behind b", x.fill(0, 50, 49, 1), -1);
        s.refused(x, "a far behind b", x.fill(0, 100000, 0, 1), -1);
        s.refused(x, "d 0", x.fill(0, 0, 0, 0), -1);
        s.refused(x, "d -1", x.fill(0, 0, 0, -1), -1);
        s.refused(x, "d the least", x.fill(0, 0, 0, LEAST), -1);
        s.refused(x, "more than 40", x.fill(0, 0, 40, 1), -1);
        s.due("nothing is put", x.count(6), 0);
        s.due("b at NOW, a at b, d 1", x.fill(0, 50, 50, 1), 20);
        s.due("40", x.fill(0, 0, 39, 1), 800);
        s.about("-2; -5 (nothing is put).");
        for (int no : NO_TRAITS) {
            s.refused(x, "trait " + no, x.fill(no, 0, 0, 1), -2);
        }
        s.due("40 more", x.fill(1, 0, 39, 1), 800);
        s.due("places", x.count(6), 1620);
        s.refused(x, "no room for all", x.fill(0, 20, 39, 1), -5);
        s.due("nothing is put", x.count(6), 1620);
        s.due("just room", x.fill(0, 20, 38, 1), 380);
        s.refused(x, "no room for one moment", x.fill(0, 45, 45, 1), -5);
        s.due("full", x.count(6), 2000);
    }

    private void history() {
        s.about("long history(int trait, int person, int moment): HISTORY: the value;"
                + " LACK (without, also where there is no such TRAIT, person, MOMENT).");
        TraitHouse x = Check.house("last 0", "6");
        x.row(0, 0, 2, 2, 5);
        x.now(4);
        s.due("without any", x.history(0, 0, 4), LACK);
        x.fill(0, 1, 3, 2);
        x.freshen(1);
        s.due("the value", x.history(0, 0, 3), 5);
        s.due("a LACK", x.history(0, 0, 2), LACK);
        s.due("ahead of all", x.history(0, 0, 0), LACK);
        s.due("of another trait", x.history(1, 0, 4), 6);
        s.due("of another trait ahead of all", x.history(1, 0, 3), LACK);
        for (int no : NO_TRAITS) {
            s.due("trait " + no, x.history(no, 0, 4), LACK);
        }
        s.due("person 20", x.history(0, 20, 4), LACK);
        s.due("person -1", x.history(1, -1, 4), LACK);
        s.due("moment -1", x.history(1, 0, -1), LACK);
        s.due("moment 100001", x.history(1, 0, 100001), LACK);
        s.due("moment 100000", x.history(1, 0, 100000), 6);
    }

    private void told() {
        s.about("int told(int trait, int person, int moment, int what): Of that place the MOMENT (what 0),"
                + " 1 if it was FILLED, else 0 (1). NONE without (as history()).");
        TraitHouse x = Check.house("last 0", "6");
        x.now(4);
        s.due("without any", x.told(0, 0, 4, 0), NONE);
        s.due("without any, what 1", x.told(0, 0, 4, 1), NONE);
        x.fill(0, 1, 3, 2);
        x.freshen(0);
        s.due("ahead of all", x.told(0, 0, 0, 0), NONE);
        s.due("ahead of all, what 1", x.told(0, 0, 0, 1), NONE);
        s.due("at 1", x.told(0, 0, 1, 0), 1);
        s.due("at 2", x.told(0, 0, 2, 0), 1);
        s.due("at 3", x.told(0, 0, 3, 0), 3);
        s.due("it was filled", x.told(0, 0, 3, 1), 1);
        s.due("at 4", x.told(0, 0, 4, 0), 4);
        s.due("it was not", x.told(0, 0, 4, 1), 0);
        s.due("of another trait", x.told(1, 0, 4, 0), NONE);
        for (int what : NO_WHATS) {
            s.due("what " + what, x.told(0, 0, 4, what), NONE);
        }
        for (int no : NO_TRAITS) {
            s.due("trait " + no, x.told(no, 0, 4, 0), NONE);
        }
        s.due("person 20", x.told(0, 20, 4, 0), NONE);
        s.due("person -1", x.told(0, -1, 4, 0), NONE);
        s.due("moment -1", x.told(0, 0, -1, 0), NONE);
        s.due("moment 100001", x.told(0, 0, 100001, 0), NONE);
        s.due("moment 100000", x.told(0, 0, 100000, 0), 4);
    }

    private void model() {
        s.about("int model(int traits): A MODEL that uses TRAITS (bits): its number. -1 bits beyond the TRAITS; -5.");
        TraitHouse x = new TraitHouse();
        for (int there = 0; there <= 20; there++) {
            s.refused(x, "bit " + there + " of " + there, x.model(1 << there), -1);
            s.refused(x, "that bit and all ahead", x.model((2 << there) - 1), -1);
            s.refused(x, "the highest bit", x.model(LEAST), -1);
            if (there < 20) {
                Check.trait(x, "1");
            }
        }
        s.refused(x, "all bits", x.model(-1), -1);
        s.refused(x, "all but the highest", x.model(MOST), -1);
        s.due("refused ones take no number", x.model((1 << 20) - 1), 0);
        s.due("bit 19", x.model(1 << 19), 1);
        for (int i = 2; i < 10; i++) {
            s.due("model " + i, x.model(i), i);
        }
        s.refused(x, "no room", x.model(1), -5);
        s.due("MODELS", x.count(5), 10);
        s.due("of the first", x.needed(0), (1 << 20) - 1);
        s.due("of the last", x.needed(9), 9);
    }

    private void needed() {
        s.about("int needed(int model): NEEDED TRAITS of a MODEL, as bits (0 without).");
        TraitHouse x = Check.house("1", "trait 0", "2");
        s.due("without any", x.needed(0), 0);
        x.model(2);
        s.due("of it", x.needed(0), 3);
        for (int no : new int[] {1, -1, 10, LEAST, MOST}) {
            s.due("model " + no, x.needed(no), 0);
        }
    }

    private void hung() {
        s.about("int hung(int trait): HUNG; NONE.");
        TraitHouse x = Check.house("1", "trait 0");
        s.due("no model", x.hung(1), 0);
        x.model(2);
        s.due("used", x.hung(1), 1);
        s.due("read", x.hung(0), 1);
        for (int no : NO_TRAITS) {
            s.due("trait " + no, x.hung(no), NONE);
        }
    }

    private void misses() {
        s.about("int misses(int model, int person): How many KEPT values of NEEDED TRAITS of a MODEL are LACK, STALE or not there,"
                + " for a person; NONE.");
        TraitHouse x = Check.house("last 0", "1", "trait 0 else 2", "9");
        x.row(0, 0, 0, 0, 5);
        x.model(2 | 4);
        s.due("not there", x.misses(0, 0), 3);
        x.freshen(0);
        x.freshen(1);
        x.freshen(2);
        s.due("all there", x.misses(0, 0), 0);
        s.due("one LACK", x.misses(0, 1), 1);
        x.now(6);
        x.limit(1, 6);
        s.due("not stale", x.misses(0, 0), 0);
        x.limit(1, 5);
        s.due("one stale", x.misses(0, 0), 1);
        s.due("one stale, one LACK", x.misses(0, 1), 2);
        x.limit(0, 5);
        s.due("what is both counts once", x.misses(0, 1), 2);
        x.limit(3, 0);
        s.due("what isn't needed doesn't count", x.misses(0, 0), 2);
        x.model(0);
        s.due("nothing is needed", x.misses(1, 0), 0);
        for (int no : new int[] {2, -1, 10, LEAST, MOST}) {
            s.due("model " + no, x.misses(no, 0), NONE);
        }
        s.due("person 20", x.misses(0, 20), NONE);
        s.due("person -1", x.misses(0, -1), NONE);
    }

    private void shift() {
        s.about("long shift(int trait, int one, int other, long a, long b, long c, int what): SHIFT: upper (what 0), lower (1) number.");
        TraitHouse x = Check.house("5", "last 0");
        x.row(0, 0, 1, 1, 10);
        x.row(1, 0, 1, 1, 20);
        x.row(2, 0, 1, 1, 30);
        x.row(2, 0, 2, 2, 10);
        s.due("upper", x.shift(1, 1, 2, 15, 25, 35, 0), 1);
        s.due("lower", x.shift(1, 1, 2, 15, 25, 35, 1), 3);
        s.due("upper of none", x.shift(0, 1, 2, 15, 25, 35, 0), 0);
        s.due("lower of none", x.shift(0, 1, 2, 15, 25, 35, 1), 1);
    }

    private void shiftRefused() {
        s.about("-1 (what, MOMENTS, numbers that fall); -2; -6 no person has a value at one of them.");
        TraitHouse x = Check.house("5", "last 0");
        for (int what : NO_WHATS) {
            s.due("what " + what, x.shift(0, 0, 0, 0, 0, 0, what), -1);
        }
        s.due("one -1", x.shift(0, -1, 0, 0, 0, 0, 0), -1);
        s.due("other 100001", x.shift(0, 0, 100001, 0, 0, 0, 0), -1);
        s.due("a above b", x.shift(0, 0, 0, 1, 0, 1, 0), -1);
        s.due("b above c", x.shift(0, 0, 0, 0, 1, 0, 0), -1);
        for (int no : NO_TRAITS) {
            s.due("trait " + no, x.shift(no, 0, 0, 0, 0, 0, 0), -2);
        }
        x.row(0, 0, 5, 6, 1);
        s.due("nobody at one", x.shift(1, 5, 6, 0, 0, 0, 0), -6);
        s.due("nobody at the other", x.shift(1, 6, 5, 0, 0, 0, 1), -6);
        s.due("nobody at both", x.shift(1, 5, 5, 0, 0, 0, 1), -6);
        s.due("somebody at both", x.shift(1, 6, 7, 0, 0, 0, 1), 1);
        x.erase(0);
        s.due("nobody any more", x.shift(1, 6, 7, 0, 0, 0, 1), -6);
        for (int person = 1; person < 20; person++) {
            x.erase(person);
        }
        s.due("all are ERASED", x.shift(0, 0, 0, 0, 0, 0, 0), -6);
    }

    private void count() {
        s.about("int count(int what): 0 NOW, 1 ROWS that there are, 2 MERGES, 3 ERASED people, 4 TRAITS, 5 MODELS,"
                + " 6 places of HISTORY taken, 7 bytes of the TAPE.");
        TraitHouse x = Check.house("1", "2", "3");
        x.now(9);
        for (int i = 0; i < 5; i++) {
            x.row(i % 2, 0, 0, 0, 0);
        }
        x.merge(0, 1, 0);
        x.merge(1, 2, 0);
        x.erase(1);
        x.model(1);
        x.fill(0, 0, 0, 1);
        x.feed(0, 0, 0, 0, 0);
        int[] want = {9, 3, 2, 1, 3, 1, 19, 20};
        for (int what = 0; what < want.length; what++) {
            s.due("count(" + what + ")", x.count(what), want[what]);
        }
        s.about("NONE for others.");
        for (int no : new int[] {-1, 8, LEAST, MOST}) {
            s.due("count(" + no + ")", x.count(no), NONE);
        }
    }

    private void status() {
        s.about("int status(): What the latest call of those that can be REFUSED (with a code above; shift aside) was REFUSED by;"
                + " 0 if it was not, or ahead of any.");
        TraitHouse x = new TraitHouse();
        s.due("ahead of any", x.status(), 0);
        s.refused(x, "now", x.now(-1), -1);
        s.due("asked again", x.status(), -1);
        x.merge(0, 1, 0);
        s.due("one that was not", x.status(), 0);
        s.refused(x, "merge", x.merge(0, 1, 0), -4);
        x.leads(20, 0);
        x.feed(0, 0, 0, 0, 0);
        x.end(-1);
        x.end(21);
        x.end(0);
        x.fault();
        x.value(0, 0, 0, 0);
        x.kept(0, 0);
        x.age(0, 0, 0);
        x.held(0);
        x.history(0, 0, 0);
        x.told(0, 0, 0, 0);
        x.needed(0);
        x.hung(0);
        x.misses(0, 0);
        x.count(-1);
        x.shift(0, 0, 0, 0, 0, 0, 9);
        x.shift(0, 0, 0, 0, 0, 0, 0);
        s.due("the others leave it", x.status(), -4);
        x.row(0, 0, 0, 0, 0);
        s.due("a row", x.status(), 0);
        s.refused(x, "erase", x.erase(20), -2);
        x.erase(0);
        s.due("an erased one", x.status(), 0);
        s.refused(x, "trait", x.trait(), -6);
        Check.trait(x, "1");
        s.due("a trait", x.status(), 0);
        s.refused(x, "law", x.law(1, 0, 0), -2);
        x.law(0, 0, 0);
        s.due("a law", x.status(), 0);
        s.refused(x, "limit", x.limit(0, -1), -1);
        x.limit(0, 0);
        s.due("a limit", x.status(), 0);
        s.refused(x, "freshen", x.freshen(1), -2);
        x.freshen(0);
        s.due("a freshening that held all", x.status(), 0);
        s.refused(x, "fill", x.fill(0, 0, 1, 1), -1);
        x.fill(0, 0, 0, 1);
        s.due("a filling", x.status(), 0);
        s.refused(x, "model", x.model(2), -1);
        x.model(1);
        s.due("a model", x.status(), 0);
        s.refused(x, "row", x.row(0, 0, 0, 0, 0), -6);
        x.now(0);
        s.due("now", x.status(), 0);
    }
}
