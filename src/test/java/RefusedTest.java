import java.util.ArrayList;
import java.util.List;
import java.util.function.Supplier;
import java.util.function.ToIntFunction;

/** A call that is refused leaves the house as it was: nothing but status() (and fault() of a text) tells of it. */
public final class RefusedTest {
    private static final Check CHECK = new Check();

    public static void main(String[] args) {
        numbers();
        notThere();
        twiceOrRound();
        noRoom();
        textsAndErased();
        callsThatAnswerNone();
        CHECK.finish();
    }

    private static void numbers() {
        for (int no : new int[] {-1, 100001, Integer.MIN_VALUE, Integer.MAX_VALUE}) {
            refused("now " + no, RefusedTest::busy, x -> x.now(no), -1);
            refused("row, stream " + no, RefusedTest::busy, x -> x.row(0, no, 1, 1, 1), -1);
            refused("row, moment " + no, RefusedTest::busy, x -> x.row(0, 0, no, 100000, 1), -1);
            refused("row, known " + no, RefusedTest::busy, x -> x.row(0, 0, 1, no, 1), -1);
            refused("merge, known " + no, RefusedTest::busy, x -> x.merge(8, 9, no), -1);
            refused("limit " + no, RefusedTest::busy, x -> x.limit(0, no), -1);
            refused("fill, a " + no, RefusedTest::busy, x -> x.fill(0, no, 5, 1), -1);
            refused("fill, b " + no, RefusedTest::busy, x -> x.fill(0, 5, no, 1), -1);
        }
        refused("now ahead of NOW", RefusedTest::busy, x -> x.now(29), -1);
        refused("row, known ahead", RefusedTest::busy, x -> x.row(0, 0, 5, 4, 1), -1);
        refused("row, value", RefusedTest::busy, x -> x.row(0, 0, 5, 5, 1000001), -1);
        refused("row, value below", RefusedTest::busy, x -> x.row(0, 0, 5, 5, -1000001), -1);
        refused("law", RefusedTest::busy, x -> x.law(0, 1, 0), -1);
        refused("fill, b behind NOW", RefusedTest::busy, x -> x.fill(0, 5, 31, 1), -1);
        refused("fill, a behind b", RefusedTest::busy, x -> x.fill(0, 6, 5, 1), -1);
        refused("fill, d", RefusedTest::busy, x -> x.fill(0, 5, 5, 0), -1);
        refused("fill, 41", RefusedTest::full, x -> x.fill(0, 0, 40, 1), -1);
        refused("model", RefusedTest::busy, x -> x.model(1 << 4), -1);
    }

    private static void notThere() {
        for (int no : new int[] {-1, 20, Integer.MIN_VALUE, Integer.MAX_VALUE}) {
            refused("row of " + no, RefusedTest::busy, x -> x.row(no, 0, 1, 1, 1), -2);
            refused("merge of " + no, RefusedTest::busy, x -> x.merge(no, 9, 1), -2);
            refused("merge to " + no, RefusedTest::busy, x -> x.merge(9, no, 1), -2);
            refused("erase " + no, RefusedTest::busy, x -> x.erase(no), -2);
            refused("law of " + no, RefusedTest::busy, x -> x.law(no, 0, 0), -2);
            refused("limit of " + no, RefusedTest::busy, x -> x.limit(no, 0), -2);
            refused("freshen " + no, RefusedTest::busy, x -> x.freshen(no), -2);
            refused("fill of " + no, RefusedTest::busy, x -> x.fill(no, 0, 0, 1), -2);
        }
        refused("freshen 4", RefusedTest::busy, x -> x.freshen(4), -2);
        refused("fill of 4", RefusedTest::busy, x -> x.fill(4, 0, 0, 1), -2);
    }

    private static void twiceOrRound() {
        refused("merge twice", RefusedTest::busy, x -> x.merge(0, 9, 0), -4);
        refused("merge itself", RefusedTest::busy, x -> x.merge(9, 9, 0), -4);
        refused("merge round", RefusedTest::busy, x -> x.merge(2, 0, 0), -4);
    }

    private static void noRoom() {
        refused("row", RefusedTest::fullOfRows, x -> x.row(0, 0, 5, 5, 1), -5);
        refused("row of an erased one", RefusedTest::fullOfRows, x -> x.row(5, 0, 5, 5, 1), -5);
        refused("fill", RefusedTest::full, x -> x.fill(0, 0, 0, 1), -5);
        refused("fill of two moments", RefusedTest::busyWithLittleRoom, x -> x.fill(0, 0, 1, 1), -5);
        refused("model", RefusedTest::full, x -> x.model(1), -5);
        refused("trait", RefusedTest::full, x -> Check.trait(x, "1"), -5);
        refused("trait with a fault", RefusedTest::full, x -> Check.trait(x, "1+?"), -5);
        refused("trait that leaks", RefusedTest::full, x -> Check.trait(x, "sum 0 from 0 to 0 ahead"), -5);
    }

    private static void textsAndErased() {
        refused("row", RefusedTest::busy, x -> x.row(5, 0, 5, 5, 1), -6);
        refused("erase", RefusedTest::busy, x -> x.erase(5), -6);
        // The first text of the busy house had the same fault, so fault() doesn't change either.
        refused("trait", RefusedTest::busyBehindFault, x -> Check.trait(x, "1+?"), -6);
        refused("trait that reads others", RefusedTest::busyBehindFault, x -> Check.trait(x, "1 trait 0"), -6);
        refused("trait that leaks", RefusedTest::busy, x -> Check.trait(x, "trait 0 + sum 0 from 0 to 0 ahead"), -3);
    }

    private static void callsThatAnswerNone() {
        refused("feed", RefusedTest::longTape, x -> x.feed(0x31313131, 0, 0, 0, 0), TraitHouse.NONE);
        refused("end", RefusedTest::longTape, x -> x.end(182), TraitHouse.NONE);
        refused("end below 0", RefusedTest::longTape, x -> x.end(-1), TraitHouse.NONE);
    }

    private static void refused(String call, Supplier<TraitHouse> house, ToIntFunction<TraitHouse> refusal, int code) {
        TraitHouse with = house.get();
        TraitHouse without = house.get();
        CHECK.due(call, refusal.applyAsInt(with), code);
        List<String> names = new ArrayList<>();
        List<Long> got = look(with, names);
        List<Long> want = look(without, new ArrayList<>());
        for (int i = 0; i < want.size(); i++) {
            CHECK.due(names.get(i) + " behind " + call, got.get(i), want.get(i));
        }
    }

    private static TraitHouse busy() {
        TraitHouse x = Check.house("last 0", "sum 0 from 30 to 0", "trait 0 + trait 1", "age 0 else 5");
        for (int i = 0; i < 12; i++) {
            x.row(i % 6, i % 2, i, i + i % 3, 100 * i);
        }
        x.merge(0, 1, 5);
        x.merge(1, 2, 3);
        x.erase(5);
        x.law(1, 0, 900);
        x.limit(2, 7);
        x.model(4);
        x.model(2);
        x.now(20);
        x.freshen(0);
        x.freshen(1);
        x.fill(2, 0, 10, 5);
        x.now(30);
        x.freshen(3);
        return x;
    }

    private static TraitHouse busyBehindFault() {
        TraitHouse x = busy();
        Check.trait(x, "1 ?");
        return x;
    }

    private static TraitHouse busyWithLittleRoom() {
        TraitHouse x = busy();
        for (int i = 0; i < 2000 && x.count(6) <= 2000 - 2 * 19; i++) {
            x.fill(0, 0, 0, 1);
        }
        return x;
    }

    private static TraitHouse longTape() {
        TraitHouse x = busy();
        Check.feed(x, "7+" + "0".repeat(178) + "7");
        return x;
    }

    private static TraitHouse full() {
        TraitHouse x = busy();
        for (int trait = 4; trait < 20; trait++) {
            Check.trait(x, "trait 0");
        }
        for (int model = 2; model < 10; model++) {
            x.model(9);
        }
        for (int i = 0; i < 110; i++) {
            x.freshen(0);
        }
        return x;
    }

    private static TraitHouse fullOfRows() {
        TraitHouse x = Check.house("last 0");
        x.erase(5);
        for (int i = 0; i < 400; i++) {
            x.row(i % 5, 0, i / 100, i / 100, i);
        }
        x.freshen(0);
        return x;
    }

    /** What a house answers to a row of calls, those last that change it; all in all less than 512. */
    private static List<Long> look(TraitHouse x, List<String> names) {
        List<Long> answers = new ArrayList<>();
        for (int what = 0; what < 8; what++) {
            note(answers, names, "count", x.count(what));
        }
        note(answers, names, "fault", x.fault());
        for (int person = 0; person < 10; person++) {
            note(answers, names, "leads", x.leads(person, 100000));
        }
        for (int trait = 0; trait < 5 && trait <= x.count(4); trait++) {
            for (int person = 0; person < 10; person += 9) {
                note(answers, names, "value", x.value(trait, person, 30, 30));
                note(answers, names, "kept", x.kept(trait, person));
                note(answers, names, "age", x.age(trait, person, 0));
                note(answers, names, "stale", x.age(trait, person, 1));
                note(answers, names, "history", x.history(trait, person, 8));
                note(answers, names, "told", x.told(trait, person, 100000, 0));
                note(answers, names, "filled", x.told(trait, person, 100000, 1));
            }
            note(answers, names, "held", x.held(trait));
            note(answers, names, "hung", x.hung(trait));
        }
        for (int model = 0; model < 3; model++) {
            note(answers, names, "needed", x.needed(model));
            note(answers, names, "misses", x.misses(model, 0));
        }
        lookByChanging(x, answers, names);
        return answers;
    }

    private static void lookByChanging(TraitHouse x, List<Long> answers, List<String> names) {
        for (int trait = 0; trait < 4; trait++) {
            note(answers, names, "limit", x.limit(trait, 50));
            note(answers, names, "freshen", x.freshen(trait));
        }
        note(answers, names, "trait of what is on the tape", x.trait());
        note(answers, names, "value of that", x.value(4, 0, 0, 0));
        note(answers, names, "next trait", Check.trait(x, "7"));
        note(answers, names, "next model", x.model(8));
        note(answers, names, "erase", x.erase(0));
        note(answers, names, "next row", x.row(9, 0, 0, 0, 0));
        note(answers, names, "next merge", x.merge(9, 8, 0));
        note(answers, names, "freshen at last", x.freshen(0));
        note(answers, names, "places at last", x.count(6));
    }

    private static void note(List<Long> answers, List<String> names, String name, long answer) {
        answers.add(answer);
        names.add(name);
    }
}
