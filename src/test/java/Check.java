/** Counts answers that are not as due, and ends a test. */
final class Check {
    private int calls;
    private int wrong;

    void due(String call, long got, long want) {
        calls++;
        if (got != want) {
            wrong++;
            System.out.println(call + " answered " + got + ", due is " + want);
        }
    }

    void finish() {
        System.out.println(calls + " answers looked at, " + wrong + " not as due");
        if (wrong != 0 || calls == 0) {
            System.exit(1);
        }
    }

    /** Puts a text of single bytes behind the tape and cuts the tape behind it. */
    static void feed(TraitHouse house, String text) {
        int before = house.count(7);
        for (int at = 0; at < text.length(); at += 20) {
            house.feed(number(text, at), number(text, at + 4), number(text, at + 8),
                    number(text, at + 12), number(text, at + 16));
        }
        house.end(before + text.length());
    }

    private static int number(String text, int at) {
        int number = 0;
        for (int i = at; i < at + 4; i++) {
            number = number << 8 | (i < text.length() ? text.charAt(i) & 255 : 0);
        }
        return number;
    }

    static int trait(TraitHouse house, String text) {
        feed(house, text);
        return house.trait();
    }

    /** A house whose traits are these texts. */
    static TraitHouse house(String... texts) {
        TraitHouse house = new TraitHouse();
        for (String text : texts) {
            trait(house, text);
        }
        return house;
    }
}
