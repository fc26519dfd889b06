/** Promises 7 to 10: feed, end, trait, fault. */
public final class TextTest {
    private static final Check CHECK = new Check();

    public static void main(String[] args) {
        tape();
        bytesOfNumbers();
        soundTexts();
        faults();
        brackets();
        leaks();
        twentyTraits();
        longTexts();
        CHECK.finish();
    }

    private static void due(String call, long got, long want) {
        CHECK.due(call, got, want);
    }

    private static void tape() {
        TraitHouse x = new TraitHouse();
        due("end(0)", x.end(0), 0);
        due("end(1) of none", x.end(1), TraitHouse.NONE);
        for (int i = 1; i <= 10; i++) {
            due("feed " + i, x.feed(0, 0, 0, 0, 0), 20 * i);
        }
        due("feed 11", x.feed(0, 0, 0, 0, 0), TraitHouse.NONE);
        due("bytes", x.count(7), 200);
        due("end(201)", x.end(201), TraitHouse.NONE);
        due("end(-1)", x.end(-1), TraitHouse.NONE);
        due("end(200)", x.end(200), 200);
        due("end(181)", x.end(181), 181);
        due("one byte too many", x.feed(0, 0, 0, 0, 0), TraitHouse.NONE);
        due("bytes stay", x.count(7), 181);
        due("end(180)", x.end(180), 180);
        due("just enough", x.feed(0, 0, 0, 0, 0), 200);
        due("trait()", x.trait(), -6);
        due("it is empty then", x.count(7), 0);
        due("NONE is no refusal", x.end(5), TraitHouse.NONE);
        due("status", x.status(), -6);
    }

    private static void bytesOfNumbers() {
        TraitHouse x = new TraitHouse();
        x.feed(0x31302B32, 0x2B333030, 0x2B343030, 0x302B3530, 0x30303020);
        due("10+2+300+4000+50000", x.trait(), 0);
        due("its value", x.value(0, 0, 0, 0), 10 + 2 + 300 + 4000 + 50000);
        x.feed(0x31FFFFFF, 0, 0, 0, 0);
        due("high bytes", x.trait(), -6);
        due("fault", x.fault(), 1);
        x.feed(0xB1B1B1B1, 0, 0, 0, 0);
        due("a byte is no digit with 128 more", x.trait(), -6);
        due("fault", x.fault(), 0);
    }

    private static void sound(String text, long value) {
        TraitHouse x = new TraitHouse();
        due(text, Check.trait(x, text), 0);
        due(text + ": fault", x.fault(), TraitHouse.NONE);
        due(text + ": value", x.value(0, 0, 10, 10), value);
    }

    private static void soundTexts() {
        sound("0", 0);
        sound("1000000", 1000000);
        sound("0000000000000000000000001", 1);
        sound("   1   ", 1);
        sound("1+2*3", 7);
        sound("1 + 2 * 3", 7);
        sound("(1+2)*3", 9);
        sound("10-3-2", 5);
        sound("100/7/2", 7);
        sound("2*3/4*5", 5);
        sound("7-1/2", 7);
        sound("(1-8)/2", -3);
        sound("7/(1-3)", -3);
        sound("last0else5", 5);
        sound("last 5 else 1000000", 1000000);
        sound("age 0 else 3+1", 4);
        sound("2*sum0from10to0else4", 8);
        sound("count0from0to0", 0);
        sound("least 5 from 1000000 to 1000000 else 1", 1);
        sound("most 05 from 3 to 3", TraitHouse.LACK);
        sound("(last 0 else 1) else 2", 1);
        sound("(last 0 + 1) else 2", 2);
        sound("1 else 2", 1);
    }

    private static void faulty(String text, int place) {
        TraitHouse x = Check.house("7");
        due("'" + text + "'", Check.trait(x, text), -6);
        due("'" + text + "' status", x.status(), -6);
        due("'" + text + "' fault", x.fault(), place);
        due("'" + text + "' traits", x.count(4), 1);
        due("'" + text + "' tape", x.count(7), 0);
    }

    private static void faults() {
        faulty("", 0);
        faulty("   ", 3);
        faulty("1+", 2);
        faulty("1 + ", 4);
        faulty("1 1", 2);
        faulty("-1", 0);
        faulty("+", 0);
        faulty(")", 0);
        faulty("()", 1);
        faulty("(1", 2);
        faulty("(1 2)", 3);
        faulty("1)", 1);
        faulty("1*/2", 2);
        faulty("1000001", 0);
        faulty("  1000001", 2);
        faulty("99999999999999999999999999", 0);
        faulty("4294967296", 0);
        faulty("Last 0", 0);
        faulty("lastz 0", 0);
        faulty("lasta 0", 0);
        faulty("last + +", 5);
        faulty("trait * *", 6);
        faulty("1 else + +", 7);
        faulty("sum + +", 4);
        faulty("sum 0 + +", 6);
        faulty("sum 0 from + +", 11);
        faulty("sum 0 from 1 + +", 13);
        faulty("sum 0 from 1 to + +", 16);
        faulty("sum 0 from 1 to 2 + +", 16);
        faulty("(1 + + 2", 5);
        faulty("1 + 1000001 1", 4);
        faulty("las t 0", 0);
        faulty("last", 4);
        faulty("last 6", 5);
        faulty("last 10", 5);
        faulty("last last", 5);
        faulty("age(0)", 3);
        faulty("trait", 5);
        faulty("trait 1", 6);
        faulty("trait 4294967296", 6);
        faulty("trait0trait0", 6);
        faulty("traits 0", 0);
        faulty("1 else", 6);
        faulty("1 else 1000001", 7);
        faulty("1 else 2 else 3", 9);
        faulty("1 else (2)", 7);
        faulty("1 else -2", 7);
        faulty("else 1", 0);
        faulty("count 0", 7);
        faulty("count 6 from 1 to 1", 6);
        faulty("count 0 to 1", 8);
        faulty("count 0 from", 12);
        faulty("count 0 from x", 13);
        faulty("count 0 from 1000001 to 0", 13);
        faulty("count 0 from 1 from 0", 15);
        faulty("count 0 from 1 to", 17);
        faulty("count 0 from 1 to 2", 18);
        faulty("count 0 from 1 to 2 ahead", 18);
        faulty("count 0 from 1000000 to 1000001", 24);
        faulty("count 0 fromx 1 to 0", 8);
        faulty("count 0 from 1 to 0 behind", 20);
        faulty("1 ahead", 2);
        faulty("last 0 ahead", 7);
        faulty("count 0 from 1 to 0 ahead ahead", 26);
        faulty("sum 0 from 1 to 0 ahead +", 25);
        faulty("1\t+2", 1);
        faulty("1\0", 1);
        faulty("1.5", 1);
        faulty("from", 0);
    }

    private static void brackets() {
        sound("((((((((1))))))))", 1);
        sound("((((((((1))))))))+((((((((1))))))))", 2);
        sound("((((((((1)+1)+1)+1)+1)+1)+1)+1)", 8);
        faulty("(((((((((1)))))))))", 8);
        faulty("((((((((1+(2)))))))))", 10);
        faulty("( ( ( ( ( ( ( ( (", 16);
        faulty("((((((((", 8);
    }

    private static void leaks() {
        TraitHouse x = Check.house("1+");
        due("fault of the first", x.fault(), 2);
        due("ahead", Check.trait(x, "count 0 from 3 to 0 ahead"), -3);
        due("status", x.status(), -3);
        due("no fault", x.fault(), TraitHouse.NONE);
        due("the tape is empty", x.count(7), 0);
        due("no trait", x.count(4), 0);
        due("ahead within", Check.trait(x, "(1+sum5from3to3ahead else 2)*2"), -3);
        due("not ahead", Check.trait(x, "count 0 from 3 to 0"), 0);
        due("status after", x.status(), 0);
        due("the next trait doesn't leak", Check.trait(x, "trait 0"), 1);
    }

    private static void twentyTraits() {
        TraitHouse x = new TraitHouse();
        for (int i = 0; i < 20; i++) {
            due("trait " + i, Check.trait(x, i == 0 ? "1" : "trait " + (i - 1) + "+1"), i);
        }
        due("trait 20 can't be named", Check.trait(x, "trait 20"), -5);
        due("no room ahead of reading", x.fault(), TraitHouse.NONE);
        due("the tape is empty", x.count(7), 0);
        due("no room ahead of leaking", Check.trait(x, "count 0 from 3 to 0 ahead"), -5);
        due("status", x.status(), -5);
        due("traits", x.count(4), 20);
        due("the last one", x.value(19, 0, 0, 0), 20);

        TraitHouse y = new TraitHouse();
        for (int i = 0; i < 19; i++) {
            Check.trait(y, "1");
        }
        due("a fault", Check.trait(y, "1 x"), -6);
        due("its place", y.fault(), 2);
        due("trait 19", Check.trait(y, "1"), 19);
        due("no fault", y.fault(), TraitHouse.NONE);
    }

    private static void longTexts() {
        StringBuilder ones = new StringBuilder("1");
        for (int i = 0; i < 99; i++) {
            ones.append("+1");
        }
        sound(ones.toString(), 100);
        sound(ones + " ", 100);
        faulty(ones + "+", 200);
        sound("0".repeat(199) + "7", 7);
        faulty("1".repeat(200), 0);
        faulty("a".repeat(200), 0);
        faulty("1" + " ".repeat(198) + "1", 199);
        faulty(" ".repeat(200), 200);

        TraitHouse y = Check.house(ones + "+", ones.toString(), ones.append(" ").toString(), "5");
        due("no text leaves anything to the next one", y.value(1, 0, 0, 0), 100);
        due("nor the longest", y.value(2, 0, 0, 0), 5);

        // Each reads the one ahead of it many times: it must not be made anew for each reading.
        TraitHouse x = Check.house("last 0");
        for (int i = 1; i < 20; i++) {
            StringBuilder text = new StringBuilder("trait" + (i - 1));
            while (text.length() + 7 + (i > 10 ? 1 : 0) <= 200) {
                text.append("-trait").append(i - 1);
            }
            due("trait " + i, Check.trait(x, text.toString()), i);
        }
        x.row(0, 0, 0, 0, 0);
        due("a deep one", x.value(19, 0, 0, 0), 0);
        due("fill of a deep one", x.fill(19, 0, 0, 1), 20);
    }
}
