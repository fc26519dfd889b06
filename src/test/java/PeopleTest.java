/** Promises 1 to 6: a new object, now, row, merge, leads, erase. */
public final class PeopleTest {
    private static final Check CHECK = new Check();

    public static void main(String[] args) {
        newObject();
        now();
        rows();
        fullRows();
        merges();
        ringsInWhateverOrder();
        longestChain();
        erasing();
        whatStaysOfOthers();
        CHECK.finish();
    }

    private static void due(String call, long got, long want) {
        CHECK.due(call, got, want);
    }

    private static void newObject() {
        TraitHouse x = new TraitHouse();
        for (int what = 0; what <= 7; what++) {
            due("new: count(" + what + ")", x.count(what), 0);
        }
        due("new: status", x.status(), 0);
        due("new: fault", x.fault(), TraitHouse.NONE);
        due("new: value", x.value(0, 0, 0, 0), TraitHouse.LACK);
        due("new: kept", x.kept(0, 0), TraitHouse.LACK);
        due("new: held", x.held(0), TraitHouse.NONE);
        due("new: needed", x.needed(0), 0);
        due("new: leads", x.leads(19, 0), 19);
    }

    private static void now() {
        TraitHouse x = new TraitHouse();
        due("now(-1)", x.now(-1), -1);
        due("now(0)", x.now(0), 0);
        due("now(7)", x.now(7), 0);
        due("now(7) again", x.now(7), 0);
        due("now(6)", x.now(6), -1);
        due("NOW", x.count(0), 7);
        due("now(100001)", x.now(100001), -1);
        due("now(100000)", x.now(100000), 0);
        due("now(least)", x.now(Integer.MIN_VALUE), -1);
        due("now(most)", x.now(Integer.MAX_VALUE), -1);
        due("NOW at last", x.count(0), 100000);
    }

    private static void rows() {
        TraitHouse x = new TraitHouse();
        due("row 0", x.row(0, 0, 0, 0, 1000000), 0);
        due("row 1", x.row(19, 5, 100000, 100000, -1000000), 1);
        due("row 2 known later", x.row(19, 5, 0, 100000, 0), 2);
        due("stream -1", x.row(0, -1, 0, 0, 0), -1);
        due("stream 6", x.row(0, 6, 0, 0, 0), -1);
        due("moment -1", x.row(0, 0, -1, 0, 0), -1);
        due("moment 100001", x.row(0, 0, 100001, 100001, 0), -1);
        due("known 100001", x.row(0, 0, 100000, 100001, 0), -1);
        due("known ahead of moment", x.row(0, 0, 5, 4, 0), -1);
        due("value 1000001", x.row(0, 0, 5, 5, 1000001), -1);
        due("value -1000001", x.row(0, 0, 5, 5, -1000001), -1);
        due("person 20", x.row(20, 0, 5, 5, 0), -2);
        due("person -1", x.row(-1, 0, 5, 5, 0), -2);
        due("number ahead of person", x.row(20, 6, 5, 5, 0), -1);
        due("rows", x.count(1), 3);
        due("erase(0)", x.erase(0), 1);
        due("erased", x.row(0, 0, 5, 5, 0), -6);
        due("number ahead of erased", x.row(0, 0, 5, 4, 0), -1);
        due("numbers go on", x.row(1, 0, 5, 5, 0), 3);
        due("rows that there are", x.count(1), 3);
    }

    private static void fullRows() {
        TraitHouse x = new TraitHouse();
        x.erase(5);
        for (int i = 0; i < 400; i++) {
            due("row " + i, x.row(i % 4, 0, i, i, i), i);
        }
        due("row 400", x.row(0, 0, 0, 0, 0), -5);
        due("status", x.status(), -5);
        due("person ahead of room", x.row(20, 0, 0, 0, 0), -2);
        due("room ahead of erased", x.row(5, 0, 0, 0, 0), -5);
        due("rows", x.count(1), 400);
        due("erase(0)", x.erase(0), 100);
        due("rows after", x.count(1), 300);
        due("room again", x.row(1, 0, 0, 0, 0), 400);
    }

    private static void merges() {
        TraitHouse x = new TraitHouse();
        due("0 is 1", x.merge(0, 1, 8), 1);
        due("2 is 0", x.merge(2, 0, 4), 2);
        due("twice", x.merge(0, 3, 9), -4);
        due("the same twice", x.merge(0, 1, 8), -4);
        due("itself", x.merge(3, 3, 1), -4);
        due("known -1", x.merge(3, 4, -1), -1);
        due("known 100001", x.merge(3, 4, 100001), -1);
        due("person a", x.merge(20, 4, 0), -2);
        due("person b", x.merge(3, -1, 0), -2);
        due("number ahead of person", x.merge(20, 4, -1), -1);
        due("merges", x.count(2), 2);
        due("leads 3", x.leads(2, 3), 2);
        due("leads 4", x.leads(2, 4), 0);
        due("leads 7", x.leads(2, 7), 0);
        due("leads 8", x.leads(2, 8), 1);
        due("leads last", x.leads(2, 100000), 1);
        due("leads person 20", x.leads(20, 0), TraitHouse.NONE);
        due("leads person -1", x.leads(-1, 0), TraitHouse.NONE);
        due("leads moment -1", x.leads(0, -1), TraitHouse.NONE);
        due("leads moment 100001", x.leads(0, 100001), TraitHouse.NONE);
        due("erase(1)", x.erase(1), 0);
        due("merges stay", x.leads(2, 8), 1);
        due("erased people are merged", x.merge(1, 5, 9), 3);
        due("to erased people", x.merge(7, 0, 9), 4);
        due("leads over erased", x.leads(7, 9), 5);
    }

    private static void ringsInWhateverOrder() {
        TraitHouse x = new TraitHouse();
        due("0 is 1", x.merge(0, 1, 50), 1);
        due("1 is 2", x.merge(1, 2, 100000), 2);
        due("round at once", x.merge(1, 0, 0), -4);
        due("round over what is known later", x.merge(2, 0, 0), -4);
        due("not round", x.merge(2, 3, 0), 3);
        due("round, longer", x.merge(3, 0, 0), -4);
        due("leads ahead of the middle one", x.leads(0, 99999), 1);
        due("leads behind it", x.leads(0, 100000), 3);
    }

    private static void longestChain() {
        TraitHouse x = new TraitHouse();
        for (int i = 0; i < 19; i++) {
            due("merge " + i, x.merge(i, i + 1, i), i + 1);
        }
        due("no one left", x.merge(19, 0, 0), -4);
        due("leads all the way", x.leads(0, 18), 19);
        due("leads all but one", x.leads(0, 17), 18);
        due("merges", x.count(2), 19);
    }

    private static void erasing() {
        TraitHouse x = Check.house("sum 0 from 100 to 0", "count 0 from 100 to 0");
        x.row(0, 0, 1, 1, 10);
        x.row(1, 0, 1, 1, 20);
        x.row(0, 0, 2, 2, 30);
        x.merge(0, 1, 3);
        x.now(5);
        x.freshen(0);
        x.fill(0, 1, 2, 1);
        due("erase(20)", x.erase(20), -2);
        due("erase(-1)", x.erase(-1), -2);
        due("erase(0)", x.erase(0), 2);
        due("erase(0) again", x.erase(0), -6);
        due("erased people", x.count(3), 1);
        due("rows", x.count(1), 1);
        due("kept is gone", x.kept(0, 0), TraitHouse.LACK);
        due("its age too", x.age(0, 0, 0), TraitHouse.NONE);
        due("history is gone", x.history(0, 0, 5), TraitHouse.LACK);
        due("told too", x.told(0, 0, 5, 0), TraitHouse.NONE);
        due("places stay taken", x.count(6), 60);
        due("kept of others stays", x.kept(0, 1), 60);
        due("history of others stays", x.history(0, 1, 5), 60);
        due("values of others lack the rows", x.value(0, 1, 5, 5), 20);
        due("the erased one still leads", x.value(0, 0, 5, 5), 20);
        due("alone it has none", x.value(1, 0, 2, 2), 0);
        due("freshen", x.freshen(0), 0);
        due("not for the erased", x.age(0, 0, 0), TraitHouse.NONE);
        due("places of nineteen", x.count(6), 79);
        due("fill for nineteen", x.fill(0, 0, 0, 1), 19);
        due("no history comes back", x.history(0, 0, 5), TraitHouse.LACK);
    }

    private static void whatStaysOfOthers() {
        TraitHouse x = Check.house("last 1", "age 1", "last 4");
        x.row(3, 0, 1, 1, 10);
        x.row(17, 1, 2, 5, 20);
        x.row(3, 2, 3, 3, 30);
        x.row(17, 4, 4, 4, 40);
        x.now(6);
        x.freshen(0);
        x.freshen(1);
        due("erase(3)", x.erase(3), 2);
        due("value", x.value(0, 17, 6, 6), 20);
        due("moment", x.value(1, 17, 6, 6), 4);
        due("stream", x.value(2, 17, 6, 6), 40);
        due("known", x.value(0, 17, 6, 4), TraitHouse.LACK);
        for (int person = 0; person < 20; person++) {
            int made = person == 3 ? TraitHouse.NONE : 6;
            due("kept of " + person, x.age(1, person, 0), made);
            due("history of " + person, x.told(1, person, 6, 0), made);
            due("history of the first trait of " + person, x.told(0, person, 6, 0), made);
        }
    }
}
