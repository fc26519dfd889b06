/** Term II, sentence by sentence: the text of a trait, and its value. */
final class TextSentences {
    private static final long LACK = TraitHouse.LACK;
    private static final int NONE = TraitHouse.NONE;
    private static final long WIDEST = 1000000000000L;

    private final Sentences s;

    TextSentences(Sentences s) {
        this.s = s;
    }

    void run() {
        bytes();
        blanks();
        tokens();
        sums();
        terms();
        parts();
        atoms();
        numbers();
        streams();
        traitsThere();
        brackets();
        faults();
        endsOfTexts();
        twentyTraits();
        rowsSeen();
        leaks();
        windows();
        boundsOfWindows();
        lasts();
        ages();
        lacksOfNone();
        lacksOnTheWay();
        divisionByNothing();
        widths();
        cuts();
        elses();
    }

    /** The text is a trait, whose value for person 0, who has no rows, is this one. */
    private void sound(String text, long value) {
        TraitHouse x = Check.house("7");
        s.due("'" + text + "'", Check.trait(x, text), 1);
        s.due("'" + text + "' fault", x.fault(), NONE);
        s.due("'" + text + "' value", x.value(1, 0, 50, 50), value);
    }

    /** The text is none; trait 0 is the only one that it might read. */
    private void faulty(String text, int place) {
        TraitHouse x = Check.house("7");
        s.refused(x, "'" + text + "'", Check.trait(x, text), -6);
        s.due("'" + text + "' fault", x.fault(), place);
        s.due("'" + text + "' traits", x.count(4), 1);
    }

    private static String ones(int many) {
        return "1" + "+1".repeat(many - 1);
    }

    private void bytes() {
        s.about("A TRAIT is a TEXT of at most 200 bytes,");
        sound("1", 1);
        sound(ones(100) + " ", 100);
        sound("10" + "+1".repeat(99), 109);
        sound("0".repeat(199) + "5", 5);
        faulty("", 0);
        faulty("1" + "0".repeat(199), 0);
        TraitHouse x = new TraitHouse();
        Check.feed(x, "10" + "+1".repeat(99));
        s.due("200 bytes", x.count(7), 200);
        s.due("no byte more", x.feed(0x20202020, 0x20202020, 0x20202020, 0x20202020, 0x20202020), NONE);
        s.due("200 bytes are a trait", x.trait(), 0);
        s.due("all of them are read", x.value(0, 0, 0, 0), 109);
        s.due("200 bytes with a fault", Check.trait(x, ones(100) + "+"), -6);
        s.due("200 bytes again", Check.trait(x, ones(100) + " "), 1);
        s.due("all of them are read again", x.value(1, 0, 0, 0), 100);
        s.due("one byte behind so many", Check.trait(x, "3"), 2);
        s.due("it is read alone", x.value(2, 0, 0, 0), 3);
    }

    private void blanks() {
        s.about("any blanks (32) between TOKENS");
        sound("1+2", 3);
        sound("1 +  2", 3);
        sound("1" + " ".repeat(197) + "+2", 3);
        sound("sum0from5to0else4", 4);
        sound("  sum  0  from  5  to  0  else  4  ", 4);
        sound("(  1  )", 1);
        faulty("1 2", 2);
        faulty("1\t+2", 1);
        faulty("1\n", 1);
        faulty("1\0", 1);
        faulty("1\u001f", 1);
        faulty("1!", 1);
        faulty("1\u00a0", 1);
    }

    private void tokens() {
        s.about("(longest rows of letters a .. z, of digits, single other bytes):");
        sound("last0else1", 1);
        sound("1else2", 1);
        sound("(1)", 1);
        sound("((1))", 1);
        faulty("la st 0", 0);
        faulty("lastlast 0", 0);
        faulty("lastelse 0", 0);
        faulty("a", 0);
        faulty("zage 0", 0);
        faulty("agez 0", 0);
        faulty("1 elsetrait 0", 2);
        faulty("1e5", 1);
        faulty("last 0 0", 7);
        faulty("1 000", 2);
        faulty("Last 0", 0);
        faulty("lasT 0", 0);
        faulty("la`st 0", 0);
        faulty("last{0", 4);
        faulty("1/:", 2);
        faulty("1++2", 2);
        faulty("1**2", 2);
        faulty("1//2", 2);
        faulty("\u00b1", 0);
        faulty("1\u00ab2", 1);
        faulty("\u00ff", 0);
        faulty("1+\u0080", 2);
    }

    private void sums() {
        s.about("SUM. SUM: TERM {(\"+\" | \"-\") TERM}.");
        sound("5", 5);
        sound("5+3-2", 6);
        sound("5-3-2", 0);
        sound("5-3+2", 4);
        sound("2-5", -3);
        faulty("+5", 0);
        faulty("-5", 0);
        faulty("5+", 2);
        faulty("5-", 2);
        faulty("5+-3", 2);
        faulty("5 5", 2);
        faulty("5 trait 0", 2);
        faulty("5,3", 1);
        faulty("5)", 1);
    }

    private void terms() {
        s.about("TERM: PART {(\"*\" | \"/\") PART}.");
        sound("2*3*4", 24);
        sound("100/10/5", 2);
        sound("7/2*2", 6);
        sound("2*7/2", 7);
        sound("1+2*3", 7);
        sound("2*3+1", 7);
        sound("9-6/3", 7);
        faulty("*5", 0);
        faulty("/5", 0);
        faulty("5*", 2);
        faulty("5/", 2);
        faulty("5*/5", 2);
        faulty("5*-5", 2);
        faulty("5+*5", 2);
        faulty("5%2", 1);
    }

    private void parts() {
        s.about("PART: ATOM [\"else\" NUMBER].");
        sound("last 0 else 3", 3);
        sound("2*last 0 else 3", 6);
        sound("last 0 else 3*2", 6);
        sound("1+last 0 else 3", 4);
        sound("last 0 else 0", 0);
        sound("(last 0 else 3) else 4", 3);
        faulty("last 0 else", 11);
        faulty("last 0 else 3 else 4", 14);
        faulty("last 0 else (3)", 12);
        faulty("last 0 else trait 0", 12);
        faulty("last 0 else -3", 12);
        faulty("last 0 else last 1", 12);
        faulty("else 3", 0);
        faulty("last 0 or 3", 7);
    }

    private void atoms() {
        s.about("ATOM: NUMBER | \"(\" SUM \")\" | \"trait\" TRAIT | (\"last\" | \"age\") STREAM"
                + " | (\"count\" | \"sum\" | \"least\" | \"most\") STREAM \"from\" NUMBER \"to\" NUMBER [\"ahead\"].");
        sound("12", 12);
        sound("(1+2)*3", 9);
        sound("trait 0", 7);
        sound("trait0*trait0", 49);
        sound("last 0", LACK);
        sound("age 0", LACK);
        sound("count 0 from 1 to 0", 0);
        for (String word : new String[] {"sum", "least", "most"}) {
            sound(word + " 0 from 1 to 0", LACK);
        }
        faulty("()", 1);
        faulty("(", 1);
        faulty("(1", 2);
        faulty("(1(", 2);
        faulty("(1 else 2", 9);
        faulty("1(2)", 1);
        faulty("trait", 5);
        faulty("trait(0)", 5);
        faulty("trait trait 0", 6);
        for (String word : new String[] {"last", "age"}) {
            int n = word.length();
            faulty(word, n);
            faulty(word + " x", n + 1);
            faulty(word + " (0)", n + 1);
            faulty(word + " 0 from 1 to 0", n + 3);
            faulty(word + " 0 ahead", n + 3);
        }
        for (String word : new String[] {"count", "sum", "least", "most"}) {
            int n = word.length();
            faulty(word, n);
            faulty(word + " from", n + 1);
            faulty(word + " 0", n + 2);
            faulty(word + " 0 to 1", n + 3);
            faulty(word + " 0 5", n + 3);
            faulty(word + " 0 from", n + 7);
            faulty(word + " 0 from to", n + 8);
            faulty(word + " 0 from (1)", n + 8);
            faulty(word + " 0 from 1", n + 9);
            faulty(word + " 0 from 1 from", n + 10);
            faulty(word + " 0 from 1 0", n + 10);
            faulty(word + " 0 from 1 to", n + 12);
            faulty(word + " 0 from 1 to (0)", n + 13);
            faulty(word + " 0 from 1 to ahead", n + 13);
            faulty(word + " 0 from 1 to 0 behind", n + 15);
            faulty(word + " 0 from 1 to 0 ahead ahead", n + 21);
            faulty(word + " 0 from 1 to 0 else 1 ahead", n + 22);
        }
        for (String word : new String[] {"from", "to", "ahead", "else", "people", "x"}) {
            faulty(word, 0);
            faulty("1+" + word + " 0", 2);
        }
    }

    private void numbers() {
        s.about("NUMBERS to 1,000,000,");
        sound("0", 0);
        sound("1000000", 1000000);
        sound("0001000000", 1000000);
        sound("last 0 else 1000000", 1000000);
        sound("count 0 from 1000000 to 1000000", 0);
        // Among them numbers that come to a small one again, if they wrap around in 32 or 64 bits.
        String[] wide = {"1000001", "1000010", "9999999", "10000000", "2147483647", "2147483648", "4294967296", "4294967301",
            "9223372036854775808", "18446744073709551616", "18446744073709551621", "340282366920938463463374607431768211461"};
        for (String each : wide) {
            faulty(each, 0);
            faulty("1+" + each + "+", 2);
            faulty("1 else " + each, 7);
            faulty("sum 0 from " + each + " to 0", 11);
            faulty("sum 0 from 1000000 to " + each, 22);
        }
    }

    private void streams() {
        s.about("STREAMS 0 .. 5,");
        for (String word : new String[] {"last", "age"}) {
            sound(word + " 0 else 3", 3);
            sound(word + " 5 else 3", 3);
            sound(word + " 0000000005 else 3", 3);
            for (String no : new String[] {"6", "10", "50", "4294967296", "18446744073709551616"}) {
                faulty(word + " " + no, word.length() + 1);
            }
        }
        for (String word : new String[] {"count", "sum", "least", "most"}) {
            sound(word + " 0 from 1 to 0 + 1", word.equals("count") ? 1 : LACK);
            sound(word + " 5 from 1 to 0 + 1", word.equals("count") ? 1 : LACK);
            for (String no : new String[] {"6", "10", "50", "4294967296", "18446744073709551616"}) {
                faulty(word + " " + no + " from 1 to 0", word.length() + 1);
            }
        }
    }

    private void traitsThere() {
        s.about("a TRAIT that is there.");
        TraitHouse x = new TraitHouse();
        s.refused(x, "none is there", Check.trait(x, "trait 0"), -6);
        s.due("its place", x.fault(), 6);
        for (int i = 0; i < 20; i++) {
            s.refused(x, "itself", Check.trait(x, "1 + trait " + i), -6);
            s.due("itself: its place", x.fault(), 10);
            s.due("the one ahead", Check.trait(x, i == 0 ? "3" : "trait " + (i - 1)), i);
            s.due("its value", x.value(i, 0, 0, 0), 3);
        }
        faulty("trait 1", 6);
        faulty("trait 20", 6);
        faulty("trait 1000000", 6);
        faulty("trait 4294967296", 6);
        faulty("trait 18446744073709551616", 6);
        sound("trait 00", 7);
    }

    private void brackets() {
        s.about("At most 8 \"(\" within one another (FAULT at the ninth).");
        sound("(".repeat(8) + "1" + ")".repeat(8), 1);
        sound("(".repeat(8) + "1" + ")".repeat(8) + "+" + "(".repeat(8) + "1" + ")".repeat(8), 2);
        sound("(1)+".repeat(9) + "1", 10);
        sound("(".repeat(7) + "(1)+(1)" + ")".repeat(7), 2);
        faulty("(".repeat(9) + "1" + ")".repeat(9), 8);
        faulty("(".repeat(200), 8);
        faulty("(".repeat(8), 8);
        faulty("( ".repeat(9), 16);
        faulty("(".repeat(8) + "1+(1)" + ")".repeat(8), 10);
        faulty("(".repeat(8) + "1" + ")".repeat(8) + "+" + "(".repeat(9), 26);
        faulty("(".repeat(8) + "1" + ")".repeat(9), 17);
    }

    private void faults() {
        s.about("FAULT: the place of the first TOKEN that can't go on there");
        faulty("?", 0);
        faulty("  ?", 2);
        faulty("1 + ? + ?", 4);
        faulty("1 + + + 2", 4);
        faulty("1***2", 2);
        faulty("last + +", 5);
        faulty("trait * *", 6);
        faulty("1 else + +", 7);
        faulty("(1 + + 2", 5);
        faulty("(1 + 2 * ) + +", 9);
        faulty("sum + +", 4);
        faulty("sum 0 + +", 6);
        faulty("sum 0 from + +", 11);
        faulty("sum 0 from 1 + +", 13);
        faulty("sum 0 from 5 3 ?", 13);
        faulty("sum 0 5 to 3 ?", 6);
        faulty("sum 0 from 1 to + +", 16);
        faulty("sum 0 from 1 to 2 + +", 16);
        faulty("(1 + 2)) )", 7);
        faulty("1000001 ?", 0);
        faulty("last 9 ?", 5);
        faulty("trait 9 ?", 6);
        faulty("sum 0 from 1 to 2 ?", 16);
        faulty("1 else 1000001 ?", 7);
        faulty(" ".repeat(199) + "?", 199);
        faulty("1" + " ".repeat(198) + "1", 199);
        faulty("abcdefghij".repeat(20), 0);
    }

    private void endsOfTexts() {
        s.about("(the end's: the TEXT's length).");
        faulty("", 0);
        faulty(" ", 1);
        faulty(" ".repeat(200), 200);
        faulty("1+", 2);
        faulty("1+  ", 4);
        faulty("(1 ", 3);
        faulty("last", 4);
        faulty("last ", 5);
        faulty(ones(100) + "+", 200);
        faulty("1" + " ".repeat(198) + "+", 200);
        TraitHouse x = new TraitHouse();
        s.refused(x, "no byte was ever fed", x.trait(), -6);
        s.due("its end", x.fault(), 0);
    }

    private void twentyTraits() {
        s.about("TRAITS are numbered as they come, 0 .. 19 (20 at most), and never change.");
        TraitHouse x = new TraitHouse();
        for (int i = 0; i < 20; i++) {
            s.due("refused ones take no number", Check.trait(x, i % 2 == 0 ? "?" : "sum 0 from 0 to 0 ahead"), i % 2 == 0 ? -6 : -3);
            s.due("trait " + i, Check.trait(x, "100+" + i), i);
        }
        s.refused(x, "trait 20", Check.trait(x, "1"), -5);
        s.due("TRAITS", x.count(4), 20);
        for (int i = 0; i < 20; i++) {
            s.due("value of " + i, x.value(i, 0, 0, 0), 100 + i);
            s.due("held of " + i, x.held(i), 0);
        }
        for (int no : new int[] {-1, 20, Integer.MIN_VALUE, Integer.MAX_VALUE}) {
            s.due("value of " + no, x.value(no, 0, 0, 0), LACK);
            s.due("held of " + no, x.held(no), NONE);
        }
    }

    private void rowsSeen() {
        s.about("A TRAIT of a person at a MOMENT t as known at k: the ROWS of all that are ONE with the person as known at k,"
                + " that came about at t or ahead of it and were known by k.");
        TraitHouse x = Check.house("sum 0 from 1000000 to 0", "last 0", "age 0");
        x.row(0, 0, 10, 20, 1);
        x.row(1, 0, 11, 11, 2);
        x.merge(0, 1, 15);
        s.due("nothing is known", x.value(0, 0, 10, 14), LACK);
        s.due("not ONE as yet", x.value(0, 0, 20, 14), LACK);
        s.due("ONE by then", x.value(0, 0, 11, 15), 2);
        s.due("came about behind t", x.value(0, 0, 10, 15), LACK);
        s.due("known by k", x.value(0, 0, 10, 20), 1);
        s.due("not known by k", x.value(0, 0, 10, 19), LACK);
        s.due("all", x.value(0, 0, 11, 20), 3);
        s.due("last at t", x.value(1, 0, 11, 20), 2);
        s.due("last ahead of t", x.value(1, 0, 10, 20), 1);
        s.due("last behind t", x.value(1, 0, 9, 20), LACK);
        s.due("age at t", x.value(2, 0, 11, 20), 0);
        s.due("age behind t", x.value(2, 0, 9, 20), LACK);
        TraitHouse y = Check.house("sum 0 from 1000000 to 0");
        y.row(0, 0, 0, 0, 5);
        y.row(0, 0, 100000, 100000, 6);
        s.due("at the first moment", y.value(0, 0, 0, 0), 5);
        s.due("one ahead of the last", y.value(0, 0, 99999, 100000), 5);
        s.due("known one ahead of the last", y.value(0, 0, 100000, 99999), 5);
        s.due("at the last moment", y.value(0, 0, 100000, 100000), 11);
    }

    private void leaks() {
        s.about("(With \"ahead\" it reads what comes about behind t: such a TEXT LEAKS, and is REFUSED by -3.)");
        TraitHouse x = Check.house("7");
        for (String word : new String[] {"count", "sum", "least", "most"}) {
            s.refused(x, word, Check.trait(x, word + " 0 from 5 to 0 ahead"), -3);
            s.due("no fault", x.fault(), NONE);
            s.refused(x, word + " of no width", Check.trait(x, word + "5from0to0ahead"), -3);
            s.refused(x, word + " far within", Check.trait(x, "1+((" + word + " 0 from 5 to 5 ahead else 1)+1)/2"), -3);
            s.refused(x, word + " twice", Check.trait(x, word + " 0 from 5 to 5 ahead - " + word + " 0 from 5 to 5"), -3);
        }
        s.due("no trait came of it", x.count(4), 1);
        s.due("the next one doesn't leak", Check.trait(x, "count 0 from 5 to 0"), 1);
    }

    private void windows() {
        s.about("count, sum, least, most: of those of a STREAM that came about from t - a to t - b");
        TraitHouse x = Check.house("count 2 from 10 to 5", "sum 2 from 10 to 5", "least 2 from 10 to 5",
                "most 2 from 10 to 5", "sum 2 from 7 to 7", "sum 2 from 1000000 to 0", "sum 2 from 1000000 to 1000000");
        int[] moments = {9, 10, 13, 15, 16};
        for (int i = 0; i < moments.length; i++) {
            x.row(0, 2, moments[i], moments[i], i == 2 ? -30 : i * 100 + 1);
            x.row(0, 3, moments[i], moments[i], 5000);
        }
        s.due("how many", x.value(0, 0, 20, 20), 3);
        s.due("sum", x.value(1, 0, 20, 20), 101 - 30 + 301);
        s.due("least", x.value(2, 0, 20, 20), -30);
        s.due("most", x.value(3, 0, 20, 20), 301);
        s.due("one moment", x.value(4, 0, 20, 20), -30);
        s.due("one moment more", x.value(4, 0, 21, 21), LACK);
        s.due("how many one moment on", x.value(0, 0, 21, 21), 3);
        s.due("how many one moment ahead", x.value(0, 0, 19, 19), 3);
        s.due("the widest", x.value(5, 0, 20, 20), 1 + 101 - 30 + 301 + 401);
        s.due("the furthest", x.value(6, 0, 100000, 100000), LACK);
        TraitHouse y = Check.house("count 0 from 100000 to 100000", "count 0 from 99999 to 0", "count 0 from 0 to 0");
        y.row(0, 0, 0, 0, 0);
        s.due("from the first moment to the last", y.value(0, 0, 100000, 100000), 1);
        s.due("one short of it", y.value(1, 0, 100000, 100000), 0);
        s.due("just as far", y.value(1, 0, 99999, 99999), 1);
        s.due("ahead of the first moment there is none", y.value(0, 0, 99999, 99999), 0);
        s.due("at once", y.value(2, 0, 0, 0), 1);
        TraitHouse z = Check.house("sum 0 from 0 to 0", "least 0 from 0 to 0", "most 0 from 0 to 0");
        for (int i = 0; i < 200; i++) {
            z.row(0, 0, 0, 0, 1000000);
            z.row(1, 0, 0, 0, -1000000);
        }
        s.due("the widest sum", z.value(0, 0, 0, 0), 200000000);
        s.due("the widest sum below", z.value(0, 1, 0, 0), -200000000);
        s.due("the highest least", z.value(1, 0, 0, 0), 1000000);
        s.due("the lowest most", z.value(2, 1, 0, 0), -1000000);
    }

    private void boundsOfWindows() {
        s.about("(\"from\" a \"to\" b; a not below b, else FAULT at b's TOKEN):"
                + " how many, their VALUES' sum, the least, the greatest one.");
        sound("count 0 from 0 to 0", 0);
        sound("count 0 from 5 to 5", 0);
        sound("count 0 from 1000000 to 1000000", 0);
        for (String word : new String[] {"count", "sum", "least", "most"}) {
            faulty(word + " 0 from 0 to 1", word.length() + 13);
            faulty(word + " 0 from 5 to 6 ahead", word.length() + 13);
            faulty(word + " 0 from 999999 to 1000000", word.length() + 18);
            faulty("1+" + word + "0from4to10", word.length() + 10);
        }
    }

    private void lasts() {
        s.about("last: the VALUE of the one that came about last, of those alike the one told last;");
        TraitHouse x = Check.house("last 1");
        x.row(0, 1, 5, 5, 50);
        x.row(0, 1, 4, 9, 40);
        s.due("came about last", x.value(0, 0, 9, 9), 50);
        x.row(0, 1, 5, 9, 51);
        s.due("told last", x.value(0, 0, 9, 9), 51);
        s.due("not as known ahead of it", x.value(0, 0, 9, 8), 50);
        x.row(0, 1, 5, 6, 52);
        s.due("told last, though known earlier", x.value(0, 0, 9, 9), 52);
        x.row(1, 1, 5, 5, 53);
        x.merge(0, 1, 9);
        s.due("told last of all that are ONE", x.value(0, 0, 9, 9), 53);
        x.row(0, 2, 7, 7, 70);
        s.due("not of another stream", x.value(0, 0, 9, 9), 53);
        x.row(0, 1, 6, 6, 60);
        s.due("a later one", x.value(0, 1, 9, 9), 60);
    }

    private void ages() {
        s.about("age: t less its MOMENT.");
        TraitHouse x = Check.house("age 1");
        x.row(0, 1, 0, 0, 5);
        s.due("none", x.value(0, 0, 0, 0), 0);
        s.due("the greatest", x.value(0, 0, 100000, 0), 100000);
        x.row(0, 1, 7, 50, 5);
        s.due("of what came about, not of what is known", x.value(0, 0, 50, 50), 43);
        s.due("at it", x.value(0, 0, 7, 50), 0);
        s.due("one ahead", x.value(0, 0, 6, 50), 6);
    }

    private void lacksOfNone() {
        s.about("LACK: sum, least, most, last, age of none;");
        TraitHouse x = Check.house("sum 0 from 0 to 0", "least 0 from 0 to 0", "most 0 from 0 to 0", "last 0", "age 0",
                "count 0 from 0 to 0");
        for (int trait = 0; trait < 5; trait++) {
            s.due("of no row, trait " + trait, x.value(trait, 0, 5, 5), LACK);
        }
        s.due("count of none is no LACK", x.value(5, 0, 5, 5), 0);
        x.row(0, 0, 5, 5, 0);
        for (int trait = 0; trait < 5; trait++) {
            s.due("0 is no LACK, trait " + trait, x.value(trait, 0, 5, 5), 0);
            s.due("of another person, trait " + trait, x.value(trait, 1, 5, 5), LACK);
        }
    }

    private void lacksOnTheWay() {
        s.about("what is worked out with a LACK;");
        for (String sign : new String[] {"+", "-", "*", "/"}) {
            sound("last 0 " + sign + " 1", LACK);
            sound("1 " + sign + " last 0", LACK);
            sound("0 " + sign + " last 0", LACK);
            sound("last 0 " + sign + " last 0", LACK);
            sound("1 + 1 " + sign + " last 0 - 1", LACK);
        }
        sound("last 0 * 0", LACK);
        sound("(last 0)", LACK);
        TraitHouse x = Check.house("last 0", "trait 0", "trait 1 + 1", "trait 0 - trait 0");
        for (int trait = 0; trait < 4; trait++) {
            s.due("over traits, " + trait, x.value(trait, 0, 0, 0), LACK);
        }
    }

    private void divisionByNothing() {
        s.about("/ by 0;");
        sound("1/0", LACK);
        sound("0/0", LACK);
        sound("1/(1-1)", LACK);
        sound("1/(1/2)", LACK);
        sound("1/count 0 from 1 to 0", LACK);
        sound("0/1", 0);
        sound("(1/0) else 3", 3);
        sound("trait 0/(trait 0-7)", LACK);
    }

    private void widths() {
        s.about("whatever is above 1,000,000,000,000 either way.");
        sound("1000000*1000000", WIDEST);
        sound("1000000*1000000+1", LACK);
        sound("1000000*1000000+1-1", LACK);
        sound("1+1000000*1000000", LACK);
        sound("1000000*1000000-1+1", WIDEST);
        sound("0-1000000*1000000", -WIDEST);
        sound("0-1000000*1000000-1", LACK);
        sound("0-1-1000000*1000000", LACK);
        sound("(0-1000000)*1000000", -WIDEST);
        sound("(0-1000000)*(0-1000000)", WIDEST);
        sound("1000000*1000000*1", WIDEST);
        sound("1000000*1000000*2", LACK);
        sound("1000000*1000000*0", 0);
        sound("0*1000000*1000000", 0);
        sound("0*0", 0);
        sound("1000000*1000000/1", WIDEST);
        sound("1000000*1000000*1000000", LACK);
        sound("1000000*1000000*1000000 - 5", LACK);
        sound("(1000000*1000000)*(1000000*1000000)", LACK);
        sound("(0-1000000*1000000)*(1000000*1000000)", LACK);
        sound("(0-1000000*1000000)*(0-1000000*1000000)", LACK);
        // Products that come to a small number again, if they wrap around in 64 bits.
        sound("65536*65536", 4294967296L);
        sound("65536*65536*128", 549755813888L);
        sound("65536*65536*232", 996432412672L);
        sound("65536*65536*233", LACK);
        sound("(65536*65536)*(65536*65536)", LACK);
        sound("(65536*65536*128)*(65536*512)", LACK);
        sound("(65536*512)*(65536*65536*128)", LACK);
        sound("(65536*65536)*(0-65536*65536)", LACK);
        sound("(0-65536*65536)*(65536*65536)", LACK);
        sound("(0-65536*65536)*(0-65536*65536)", LACK);
        sound("(65536*65536*128)*(65536*65536*128)", LACK);
        sound("(65536*65536)*(65536*65536+1)", LACK);
        sound("(2*1000000*1000000) else 4", 4);
        sound("(0-1-1000000*1000000) else 4", 4);
    }

    private void cuts() {
        s.about("/ is cut towards 0.");
        sound("7/2", 3);
        sound("(0-7)/2", -3);
        sound("7/(0-2)", -3);
        sound("(0-7)/(0-2)", 3);
        sound("1/2", 0);
        sound("(0-1)/2", 0);
        sound("1000000*1000000/(0-1)", -WIDEST);
        sound("(0-999999)/1000000", 0);
    }

    private void elses() {
        s.about("PART \"else\" n: n, where it is LACK.");
        sound("last 0 else 5", 5);
        sound("last 0 else 0", 0);
        sound("count 0 from 0 to 0 else 5", 0);
        sound("0 else 5", 0);
        sound("trait 0 else 5", 7);
        sound("(0-1) else 5", -1);
        sound("last 0 else 5 + last 0 else 6", 11);
        sound("1/0 else 5", LACK);
        sound("(1/0) else 5", 5);
        TraitHouse x = Check.house("last 0", "trait 0 else 9", "trait 1 + 1");
        s.due("over traits", x.value(2, 0, 0, 0), 10);
        x.row(0, 0, 0, 0, 4);
        s.due("over traits, with a value", x.value(2, 0, 0, 0), 5);
    }
}
