import java.util.Arrays;

/** A house of traits: numbers about people, made from raw rows by small programs. */
public final class TraitHouse {

    public static final int NONE = -1;
    public static final long LACK = -9000000000000000000L;

    private static final int LAST_MOMENT = 100_000;
    private static final int PEOPLE = 20;
    private static final int STREAMS = 6;
    private static final int WIDEST_VALUE = 1_000_000;
    private static final int MOST_ROWS = 400;
    private static final int MOST_BYTES = 200;
    private static final int FED_NUMBERS = 5;
    private static final int BYTES_OF_NUMBER = 4;
    private static final int MOST_TRAITS = 20;
    private static final int MOST_NUMBER = 1_000_000;
    private static final int MOST_BRACKETS = 8;
    private static final long WIDEST_RESULT = 1_000_000_000_000L;
    private static final int MOST_FILLED_MOMENTS = 40;
    private static final int MOST_PLACES = 2000;
    private static final int MOST_MODELS = 10;
    private static final int HEAPS = 4;

    private static final int BAD_NUMBER = -1;
    private static final int NOT_THERE = -2;
    private static final int LEAKS = -3;
    private static final int TWICE_OR_ROUND = -4;
    private static final int NO_ROOM = -5;
    private static final int BAD_TEXT = -6;
    private static final int IS_ERASED = -6;
    private static final int NOBODY = -6;

    private static final int NUMBER = 0;
    private static final int TRAIT = 1;
    private static final int LAST = 2;
    private static final int AGE = 3;
    private static final int COUNT = 4;
    private static final int SUM = 5;
    private static final int LEAST = 6;
    private static final int MOST = 7;
    private static final int ELSE = 8;
    private static final int ADD = 9;
    private static final int SUBTRACT = 10;
    private static final int MULTIPLY = 11;
    private static final int DIVIDE = 12;

    private final Rows rows;
    private final Merges merges;
    private final boolean[] erased;
    private final Tape tape;
    private final Reader reader;
    private final Trait[] traits;
    private final Worker worker;
    private final Places places;
    private final int[] models;
    private final int[] heapsAtOne;
    private final int[] heapsAtOther;
    private int now;
    private int erasedPeople;
    private int traitsThere;
    private int modelsThere;
    private int latestFault;
    private int latestRefusal;

    public TraitHouse() {
        rows = new Rows();
        merges = new Merges();
        erased = new boolean[PEOPLE];
        tape = new Tape();
        reader = new Reader(tape);
        traits = new Trait[MOST_TRAITS];
        worker = new Worker(rows, merges, traits);
        places = new Places();
        models = new int[MOST_MODELS];
        heapsAtOne = new int[HEAPS];
        heapsAtOther = new int[HEAPS];
        latestFault = NONE;
    }

    // ---- moments, rows, people

    public int now(int moment) {
        if (!isMoment(moment) || moment < now) {
            return settle(BAD_NUMBER);
        }
        now = moment;
        return settle(0);
    }

    public int row(int person, int stream, int moment, int known, int value) {
        return settle(addRow(person, stream, moment, known, value));
    }

    private int addRow(int person, int stream, int moment, int known, int value) {
        if (!isStream(stream) || !isMoment(moment) || !isMoment(known) || known < moment || !isRowValue(value)) {
            return BAD_NUMBER;
        }
        if (!isPerson(person)) {
            return NOT_THERE;
        }
        if (rows.isFull()) {
            return NO_ROOM;
        }
        if (erased[person]) {
            return IS_ERASED;
        }
        return rows.add(person, stream, moment, known, value);
    }

    public int merge(int a, int b, int known) {
        return settle(addMerge(a, b, known));
    }

    private int addMerge(int a, int b, int known) {
        if (!isMoment(known)) {
            return BAD_NUMBER;
        }
        if (!isPerson(a) || !isPerson(b)) {
            return NOT_THERE;
        }
        // All merges are known by the last moment: so a ring is found in whatever order they became known.
        if (merges.isTold(a) || merges.lastOf(b, LAST_MOMENT) == a) {
            return TWICE_OR_ROUND;
        }
        return merges.add(a, b, known);
    }

    public int leads(int person, int known) {
        if (!isPerson(person) || !isMoment(known)) {
            return NONE;
        }
        return merges.lastOf(person, known);
    }

    public int erase(int person) {
        return settle(dropPerson(person));
    }

    private int dropPerson(int person) {
        if (!isPerson(person)) {
            return NOT_THERE;
        }
        if (erased[person]) {
            return IS_ERASED;
        }
        erased[person] = true;
        erasedPeople++;
        for (int i = 0; i < MOST_TRAITS; i++) {
            Trait each = traitAt(i);
            if (each != null) {
                each.forget(person);
            }
        }
        places.forget(person);
        return rows.drop(person);
    }

    // ---- the tape and the traits read from it

    public int feed(int a, int b, int c, int d, int e) {
        if (tape.size + FED_NUMBERS * BYTES_OF_NUMBER > MOST_BYTES) {
            return NONE;
        }
        tape.append(a);
        tape.append(b);
        tape.append(c);
        tape.append(d);
        tape.append(e);
        return tape.size;
    }

    public int end(int n) {
        if (n < 0 || n > tape.size) {
            return NONE;
        }
        tape.size = n;
        return n;
    }

    public int trait() {
        int answer = traitsThere >= MOST_TRAITS ? NO_ROOM : readTrait();
        tape.size = 0;
        return settle(answer);
    }

    private int readTrait() {
        latestFault = reader.read(traitsThere);
        if (latestFault != NONE) {
            return BAD_TEXT;
        }
        if (reader.leaks) {
            return LEAKS;
        }
        int number = traitsThere;
        traits[number] = new Trait(reader.stepsRead(), needsOf(reader.reads) | 1 << number);
        traitsThere++;
        return number;
    }

    public int fault() {
        return latestFault;
    }

    public long value(int trait, int person, int moment, int known) {
        if (traitAt(trait) == null || !isPerson(person) || !isMoment(moment) || !isMoment(known)) {
            return LACK;
        }
        return worker.make(trait, person, moment, known);
    }

    // ---- what is kept, and its history

    public int law(int trait, long from, long to) {
        if (from > to) {
            return settle(BAD_NUMBER);
        }
        Trait found = traitAt(trait);
        if (found == null) {
            return settle(NOT_THERE);
        }
        found.lawFrom = from;
        found.lawTo = to;
        return settle(0);
    }

    public int limit(int trait, int n) {
        if (!isMoment(n)) {
            return settle(BAD_NUMBER);
        }
        Trait found = traitAt(trait);
        if (found == null) {
            return settle(NOT_THERE);
        }
        int before = found.staleAbove;
        found.staleAbove = n;
        return settle(before);
    }

    public int freshen(int trait) {
        Trait found = traitAt(trait);
        if (found == null) {
            return settle(NOT_THERE);
        }
        int heldBefore = found.heldInAll;
        for (int person = 0; person < PEOPLE; person++) {
            if (!erased[person]) {
                keepFresh(found, trait, person);
            }
        }
        return settle(found.heldInAll - heldBefore);
    }

    private void keepFresh(Trait found, int trait, int person) {
        long made = worker.make(trait, person, now, now);
        if (found.isOutside(made)) {
            found.heldInAll++;
            return;
        }
        found.keep(person, made, now);
        places.put(trait, person, now, false, made);
    }

    public long kept(int trait, int person) {
        Trait found = traitAt(trait);
        if (found == null || !isPerson(person)) {
            return LACK;
        }
        return found.keptValues[person];
    }

    public int age(int trait, int person, int what) {
        Trait found = traitAt(trait);
        if (found == null || !isPerson(person) || !found.isKept(person)) {
            return NONE;
        }
        switch (what) {
            case 0:
                return found.keptMoments[person];
            case 1:
                return found.isStale(person, now) ? 1 : 0;
            default:
                return NONE;
        }
    }

    public int held(int trait) {
        Trait found = traitAt(trait);
        return found == null ? NONE : found.heldInAll;
    }

    public int fill(int trait, int a, int b, int d) {
        int wanted = placesToFill(trait, a, b, d);
        if (wanted > 0) {
            // A long, since the moment behind the last one may be too wide for an int.
            for (long moment = a; moment <= b; moment += d) {
                fillMoment(trait, (int) moment);
            }
        }
        return settle(wanted);
    }

    /** How many places a filling takes, or what it is refused by. */
    private int placesToFill(int trait, int a, int b, int d) {
        if (!isMoment(a) || !isMoment(b) || b > now || a > b || d < 1) {
            return BAD_NUMBER;
        }
        int moments = (b - a) / d + 1;
        if (moments > MOST_FILLED_MOMENTS) {
            return BAD_NUMBER;
        }
        if (traitAt(trait) == null) {
            return NOT_THERE;
        }
        int wanted = moments * (PEOPLE - erasedPeople);
        return wanted > places.free() ? NO_ROOM : wanted;
    }

    private void fillMoment(int trait, int moment) {
        for (int person = 0; person < PEOPLE; person++) {
            if (!erased[person]) {
                places.put(trait, person, moment, true, worker.make(trait, person, moment, moment));
            }
        }
    }

    public long history(int trait, int person, int moment) {
        int place = placeOf(trait, person, moment);
        return place == NONE ? LACK : places.values[place];
    }

    public int told(int trait, int person, int moment, int what) {
        int place = placeOf(trait, person, moment);
        if (place == NONE) {
            return NONE;
        }
        switch (what) {
            case 0:
                return places.moments[place];
            case 1:
                return places.filled[place] ? 1 : 0;
            default:
                return NONE;
        }
    }

    private int placeOf(int trait, int person, int moment) {
        if (traitAt(trait) == null || !isPerson(person) || !isMoment(moment)) {
            return NONE;
        }
        return places.find(trait, person, moment);
    }

    // ---- models

    public int model(int traits) {
        // A shift without sign: the highest bit too lies beyond the traits.
        if (traits >>> traitsThere != 0) {
            return settle(BAD_NUMBER);
        }
        if (modelsThere >= MOST_MODELS) {
            return settle(NO_ROOM);
        }
        // Traits never change, so what a model needs can be told once and for all.
        models[modelsThere] = needsOf(traits);
        modelsThere++;
        return settle(modelsThere - 1);
    }

    public int needed(int model) {
        return isModel(model) ? models[model] : 0;
    }

    public int hung(int trait) {
        if (traitAt(trait) == null) {
            return NONE;
        }
        int hanging = 0;
        for (int i = 0; i < modelsThere; i++) {
            if (hasBit(models[i], trait)) {
                hanging++;
            }
        }
        return hanging;
    }

    public int misses(int model, int person) {
        if (!isModel(model) || !isPerson(person)) {
            return NONE;
        }
        int missing = 0;
        for (int i = 0; i < traitsThere; i++) {
            Trait each = traitAt(i);
            if (each != null && hasBit(models[model], i) && each.isMissing(person, now)) {
                missing++;
            }
        }
        return missing;
    }

    // ---- shifts

    public long shift(int trait, int one, int other, long a, long b, long c, int what) {
        if ((what != 0 && what != 1) || !isMoment(one) || !isMoment(other) || a > b || b > c) {
            return BAD_NUMBER;
        }
        if (traitAt(trait) == null) {
            return NOT_THERE;
        }
        int peopleAtOne = heapUp(heapsAtOne, trait, one, a, b, c);
        int peopleAtOther = heapUp(heapsAtOther, trait, other, a, b, c);
        if (peopleAtOne == 0 || peopleAtOther == 0) {
            return NOBODY;
        }
        int upper = 0;
        for (int i = 0; i < HEAPS; i++) {
            upper += Math.max(0, heapsAtOne[i] * peopleAtOther - heapsAtOther[i] * peopleAtOne);
        }
        int lower = peopleAtOne * peopleAtOther;
        int common = commonDivisor(lower, upper);
        return (what == 0 ? upper : lower) / common;
    }

    /** Answers how many people have a value at the moment. */
    private int heapUp(int[] heaps, int trait, int moment, long a, long b, long c) {
        Arrays.fill(heaps, 0);
        int people = 0;
        for (int person = 0; person < PEOPLE; person++) {
            long taught = erased[person] ? LACK : worker.make(trait, person, moment, moment);
            if (taught != LACK) {
                int heap = taught < a ? 0 : taught < b ? 1 : taught < c ? 2 : 3;
                heaps[heap]++;
                people++;
            }
        }
        return people;
    }

    /** Of a number above 0 and one not below 0; never 0. */
    private static int commonDivisor(int positive, int other) {
        int high = positive;
        int low = other;
        // The greater of two numbers of 31 bits halves at least every second round.
        for (int i = 0; i < 64 && low != 0; i++) {
            int rest = high % low;
            high = low;
            low = rest;
        }
        return Math.max(1, high);
    }

    // ---- counts

    public int count(int what) {
        switch (what) {
            case 0:
                return now;
            case 1:
                return rows.size;
            case 2:
                return merges.size;
            case 3:
                return erasedPeople;
            case 4:
                return traitsThere;
            case 5:
                return modelsThere;
            case 6:
                return places.size;
            case 7:
                return tape.size;
            default:
                return NONE;
        }
    }

    public int status() {
        return latestRefusal;
    }

    /** Every call that can be refused answers below 0 only if it was: so its answer tells the status. */
    private int settle(int answer) {
        latestRefusal = Math.min(answer, 0);
        return answer;
    }

    private static boolean isMoment(int moment) {
        return moment >= 0 && moment <= LAST_MOMENT;
    }

    private static boolean isPerson(int person) {
        return person >= 0 && person < PEOPLE;
    }

    private static boolean isStream(int stream) {
        return stream >= 0 && stream < STREAMS;
    }

    private static boolean isRowValue(int value) {
        return value >= -WIDEST_VALUE && value <= WIDEST_VALUE;
    }

    private boolean isModel(int model) {
        return model >= 0 && model < modelsThere;
    }

    private static boolean hasBit(int bits, int bit) {
        return (bits >>> bit & 1) != 0;
    }

    /** The trait of a number; null if there is none. */
    private Trait traitAt(int number) {
        return number >= 0 && number < traitsThere ? traits[number] : null;
    }

    /** These traits (bits) and all that they read, however far away. */
    private int needsOf(int bits) {
        int needs = 0;
        for (int i = 0; i < traitsThere; i++) {
            Trait each = traitAt(i);
            if (each != null && hasBit(bits, i)) {
                needs |= each.needs;
            }
        }
        return needs;
    }

    /** The rows that there are, in the order in which they were told. */
    private static final class Rows {
        private final int[] people = new int[MOST_ROWS];
        private final int[] streams = new int[MOST_ROWS];
        private final int[] moments = new int[MOST_ROWS];
        private final int[] knowns = new int[MOST_ROWS];
        private final int[] values = new int[MOST_ROWS];
        private int size;
        // Rows that are gone keep their numbers: none is given out twice.
        private int nextNumber;

        private boolean isFull() {
            return size >= MOST_ROWS;
        }

        private int add(int person, int stream, int moment, int known, int value) {
            if (isFull()) {
                return NO_ROOM;
            }
            people[size] = person;
            streams[size] = stream;
            moments[size] = moment;
            knowns[size] = known;
            values[size] = value;
            size++;
            nextNumber++;
            return nextNumber - 1;
        }

        /** Answers how many rows went; the others keep their order. */
        private int drop(int person) {
            int staying = 0;
            for (int i = 0; i < size; i++) {
                if (people[i] != person) {
                    move(i, staying);
                    staying++;
                }
            }
            int gone = size - staying;
            size = staying;
            return gone;
        }

        private void move(int from, int to) {
            people[to] = people[from];
            streams[to] = streams[from];
            moments[to] = moments[from];
            knowns[to] = knowns[from];
            values[to] = values[from];
        }
    }

    /** Who was found to be whom, and from when on that is known. */
    private static final class Merges {
        private final int[] targets = new int[PEOPLE];
        private final int[] knowns = new int[PEOPLE];
        private int size;

        private Merges() {
            Arrays.fill(targets, NONE);
        }

        private boolean isTold(int person) {
            return targets[person] != NONE;
        }

        private int add(int person, int target, int known) {
            targets[person] = target;
            knowns[person] = known;
            size++;
            return size;
        }

        private int lastOf(int person, int known) {
            int last = person;
            for (int i = 0; i < PEOPLE && isTold(last) && knowns[last] <= known; i++) {
                last = targets[last];
            }
            return last;
        }
    }

    /** The bytes, 0 to 255, that the next trait is read from. */
    private static final class Tape {
        private final int[] bytes = new int[MOST_BYTES];
        private int size;

        private void append(int number) {
            for (int i = BYTES_OF_NUMBER - 1; i >= 0 && size < MOST_BYTES; i--) {
                bytes[size] = number >>> (8 * i) & 255;
                size++;
            }
        }
    }

    /** One step of a trait's program; its numbers are read as its kind asks. */
    private static final class Step {
        private final int kind;
        private final int number;
        private final int from;
        private final int to;

        private Step(int kind, int number, int from, int to) {
            this.kind = kind;
            this.number = number;
            this.from = from;
            this.to = to;
        }
    }

    /** Reads the tape into steps in the order of working: what is joined stands ahead of what joins it. */
    private static final class Reader {
        private static final int BLANK = 32;
        private static final int TOO_MUCH = MOST_NUMBER + 1;

        private final Tape tape;
        // A step comes from a token of its own, so there are no more of them than bytes.
        private final Step[] steps = new Step[MOST_BYTES];
        private int size;
        private int place;
        private int behind;
        private int traitsThere;
        private int fault;
        private int reads;
        private boolean leaks;

        private Reader(Tape tape) {
            this.tape = tape;
        }

        /** Answers the place of the fault, or NONE. */
        private int read(int traitsToRead) {
            size = 0;
            behind = 0;
            traitsThere = traitsToRead;
            fault = NONE;
            reads = 0;
            leaks = false;
            advance();
            if (readSum(0) && place < tape.size) {
                stop();
            }
            return fault;
        }

        private Step[] stepsRead() {
            Step[] copy = new Step[size];
            for (int i = 0; i < size; i++) {
                copy[i] = steps[i];
            }
            return copy;
        }

        private boolean readSum(int depth) {
            boolean sound = readTerm(depth);
            for (int i = 0; i < MOST_BYTES && sound && (isAt("+") || isAt("-")); i++) {
                int kind = isAt("+") ? ADD : SUBTRACT;
                advance();
                sound = readTerm(depth);
                emit(kind, NONE, NONE, NONE);
            }
            return sound;
        }

        private boolean readTerm(int depth) {
            boolean sound = readPart(depth);
            for (int i = 0; i < MOST_BYTES && sound && (isAt("*") || isAt("/")); i++) {
                int kind = isAt("*") ? MULTIPLY : DIVIDE;
                advance();
                sound = readPart(depth);
                emit(kind, NONE, NONE, NONE);
            }
            return sound;
        }

        private boolean readPart(int depth) {
            if (!readAtom(depth)) {
                return false;
            }
            if (!isAt("else")) {
                return true;
            }
            advance();
            return readNumbered(ELSE, MOST_NUMBER);
        }

        private boolean readAtom(int depth) {
            if (isDigitAt(place)) {
                return readNumbered(NUMBER, MOST_NUMBER);
            }
            if (isAt("(")) {
                return readBracket(depth);
            }
            int kind = kindAt();
            if (kind == NONE) {
                return stop();
            }
            advance();
            switch (kind) {
                case TRAIT:
                    return readNumbered(TRAIT, traitsThere - 1);
                case LAST:
                case AGE:
                    return readNumbered(kind, STREAMS - 1);
                default:
                    return readWindow(kind);
            }
        }

        private boolean readBracket(int depth) {
            if (depth >= MOST_BRACKETS) {
                return stop();
            }
            advance();
            return readSum(depth + 1) && take(")");
        }

        private boolean readNumbered(int kind, int most) {
            int number = takeNumber(most);
            if (number == NONE) {
                return false;
            }
            if (kind == TRAIT) {
                reads |= 1 << number;
            }
            emit(kind, number, NONE, NONE);
            return true;
        }

        private boolean readWindow(int kind) {
            int stream = takeNumber(STREAMS - 1);
            if (stream == NONE || !take("from")) {
                return false;
            }
            int from = takeNumber(MOST_NUMBER);
            if (from == NONE || !take("to")) {
                return false;
            }
            int to = takeNumber(from);
            if (to == NONE) {
                return false;
            }
            emit(kind, stream, from, to);
            if (isAt("ahead")) {
                leaks = true;
                advance();
            }
            return true;
        }

        /** What kind of atom begins with the word at hand; NONE if none does. */
        private int kindAt() {
            if (isAt("trait")) {
                return TRAIT;
            }
            if (isAt("last")) {
                return LAST;
            }
            if (isAt("age")) {
                return AGE;
            }
            if (isAt("count")) {
                return COUNT;
            }
            if (isAt("sum")) {
                return SUM;
            }
            if (isAt("least")) {
                return LEAST;
            }
            return isAt("most") ? MOST : NONE;
        }

        private boolean take(String token) {
            if (!isAt(token)) {
                return stop();
            }
            advance();
            return true;
        }

        /** The number at hand, if it is one that is not above the most; NONE and a fault if it is not. */
        private int takeNumber(int most) {
            int number = isDigitAt(place) ? 0 : TOO_MUCH;
            // No more digits than needed: a longer row of them would be too wide for an int.
            for (int i = place; i < behind && number < TOO_MUCH; i++) {
                number = number * 10 + tape.bytes[i] - '0';
            }
            if (number > most) {
                stop();
                return NONE;
            }
            advance();
            return number;
        }

        private boolean stop() {
            fault = place;
            return false;
        }

        private void emit(int kind, int number, int from, int to) {
            if (size < MOST_BYTES) {
                steps[size] = new Step(kind, number, from, to);
                size++;
            }
        }

        private boolean isAt(String token) {
            int length = token.length();
            if (behind - place != length) {
                return false;
            }
            for (int i = 0; i < length; i++) {
                if (tape.bytes[place + i] != token.charAt(i)) {
                    return false;
                }
            }
            return true;
        }

        /** Goes on to the next token; behind the last one an empty one stands at the text's length. */
        private void advance() {
            place = behind;
            while (place < tape.size && tape.bytes[place] == BLANK) {
                place++;
            }
            behind = Math.min(place + 1, tape.size);
            boolean letters = isLetterAt(place);
            boolean digits = isDigitAt(place);
            while (behind < tape.size && ((letters && isLetterAt(behind)) || (digits && isDigitAt(behind)))) {
                behind++;
            }
        }

        private boolean isLetterAt(int at) {
            return at < tape.size && tape.bytes[at] >= 'a' && tape.bytes[at] <= 'z';
        }

        private boolean isDigitAt(int at) {
            return at < tape.size && tape.bytes[at] >= '0' && tape.bytes[at] <= '9';
        }
    }

    /** A trait's program, and what is kept of it. */
    private static final class Trait {
        private final Step[] steps;
        private final int needs;
        private final long[] keptValues = new long[PEOPLE];
        private final int[] keptMoments = new int[PEOPLE];
        // Nothing that can be made lies outside of this: so it stands for no law.
        private long lawFrom = -WIDEST_RESULT;
        private long lawTo = WIDEST_RESULT;
        private int staleAbove = LAST_MOMENT;
        private int heldInAll;

        private Trait(Step[] steps, int needs) {
            this.steps = steps;
            this.needs = needs;
            Arrays.fill(keptValues, LACK);
            Arrays.fill(keptMoments, NONE);
        }

        private boolean isOutside(long made) {
            return made != LACK && (made < lawFrom || made > lawTo);
        }

        private void keep(int person, long made, int moment) {
            keptValues[person] = made;
            keptMoments[person] = moment;
        }

        private void forget(int person) {
            keep(person, LACK, NONE);
        }

        private boolean isKept(int person) {
            return keptMoments[person] != NONE;
        }

        private boolean isStale(int person, int now) {
            return now - keptMoments[person] > staleAbove;
        }

        private boolean isMissing(int person, int now) {
            return !isKept(person) || keptValues[person] == LACK || isStale(person, now);
        }
    }

    /** Makes values of traits from the rows that may be seen. */
    private static final class Worker {
        private final Rows rows;
        private final Merges merges;
        private final Trait[] traits;
        private final boolean[] ones = new boolean[PEOPLE];
        private final int[] seen = new int[MOST_ROWS];
        private final long[] stack = new long[MOST_BYTES];
        private final long[] values = new long[MOST_TRAITS];
        private int seenRows;
        private int moment;
        private int top;

        private Worker(Rows rows, Merges merges, Trait[] traits) {
            this.rows = rows;
            this.merges = merges;
            this.traits = traits;
        }

        private long make(int trait, int person, int at, int known) {
            if (traits[trait] == null) {
                return LACK;
            }
            int needs = traits[trait].needs;
            look(person, at, known);
            // A trait reads only those ahead of it: in this order each is made once, however often it is read.
            for (int i = 0; i <= trait; i++) {
                if (hasBit(needs, i) && traits[i] != null) {
                    values[i] = workOut(traits[i].steps);
                }
            }
            return values[trait];
        }

        private void look(int person, int at, int known) {
            int last = merges.lastOf(person, known);
            for (int i = 0; i < PEOPLE; i++) {
                ones[i] = merges.lastOf(i, known) == last;
            }
            moment = at;
            seenRows = 0;
            for (int i = 0; i < rows.size; i++) {
                if (ones[rows.people[i]] && rows.moments[i] <= at && rows.knowns[i] <= known) {
                    seen[seenRows] = i;
                    seenRows++;
                }
            }
        }

        private long workOut(Step[] steps) {
            top = 0;
            for (int i = 0; i < steps.length; i++) {
                perform(steps[i]);
            }
            return pop();
        }

        private void perform(Step step) {
            switch (step.kind) {
                case NUMBER:
                    push(step.number);
                    break;
                case TRAIT:
                    push(values[step.number]);
                    break;
                case LAST:
                case AGE:
                    push(latest(step));
                    break;
                case COUNT:
                case SUM:
                case LEAST:
                case MOST:
                    push(window(step));
                    break;
                case ELSE:
                    long part = pop();
                    push(part == LACK ? step.number : part);
                    break;
                default:
                    long right = pop();
                    push(join(step.kind, pop(), right));
                    break;
            }
        }

        private long latest(Step step) {
            int found = NONE;
            for (int i = 0; i < seenRows; i++) {
                int row = seen[i];
                // Not below: of rows alike the one told last counts.
                if (rows.streams[row] == step.number
                        && (found == NONE || rows.moments[row] >= rows.moments[found])) {
                    found = row;
                }
            }
            if (found == NONE) {
                return LACK;
            }
            return step.kind == LAST ? rows.values[found] : moment - rows.moments[found];
        }

        private long window(Step step) {
            int count = 0;
            long sum = 0;
            long least = WIDEST_VALUE;
            long most = -WIDEST_VALUE;
            for (int i = 0; i < seenRows; i++) {
                int row = seen[i];
                if (rows.streams[row] == step.number && isWithin(step, rows.moments[row])) {
                    count++;
                    sum += rows.values[row];
                    least = Math.min(least, rows.values[row]);
                    most = Math.max(most, rows.values[row]);
                }
            }
            if (step.kind == COUNT) {
                return count;
            }
            if (count == 0) {
                return LACK;
            }
            return step.kind == SUM ? sum : step.kind == LEAST ? least : most;
        }

        private boolean isWithin(Step step, int at) {
            return at >= moment - step.from && at <= moment - step.to;
        }

        private static long join(int kind, long left, long right) {
            if (left == LACK || right == LACK) {
                return LACK;
            }
            switch (kind) {
                case ADD:
                    return left + right;
                case SUBTRACT:
                    return left - right;
                case MULTIPLY:
                    return times(left, right);
                default:
                    return right == 0 ? LACK : left / right;
            }
        }

        /** Looks at the width ahead of multiplying, since the product may be too wide for a long. */
        private static long times(long left, long right) {
            if (left != 0 && Math.abs(right) > WIDEST_RESULT / Math.abs(left)) {
                return LACK;
            }
            return left * right;
        }

        private void push(long value) {
            if (top < MOST_BYTES) {
                stack[top] = Math.abs(value) > WIDEST_RESULT ? LACK : value;
                top++;
            }
        }

        private long pop() {
            if (top == 0) {
                return LACK;
            }
            top--;
            return stack[top];
        }
    }

    /** The places of the history, in the order in which they were taken. */
    private static final class Places {
        private final int[] owners = new int[MOST_PLACES];
        private final int[] moments = new int[MOST_PLACES];
        private final boolean[] filled = new boolean[MOST_PLACES];
        private final long[] values = new long[MOST_PLACES];
        private int size;

        private int free() {
            return MOST_PLACES - size;
        }

        private void put(int trait, int person, int moment, boolean isFilled, long value) {
            if (size < MOST_PLACES) {
                owners[size] = owner(trait, person);
                moments[size] = moment;
                filled[size] = isFilled;
                values[size] = value;
                size++;
            }
        }

        private int find(int trait, int person, int moment) {
            int wanted = owner(trait, person);
            int found = NONE;
            for (int i = 0; i < size; i++) {
                // Not below: of moments alike the one put last counts.
                if (owners[i] == wanted && moments[i] <= moment
                        && (found == NONE || moments[i] >= moments[found])) {
                    found = i;
                }
            }
            return found;
        }

        /** The places stay taken, but nobody owns them any more. */
        private void forget(int person) {
            for (int i = 0; i < size; i++) {
                if (owners[i] != NONE && owners[i] % PEOPLE == person) {
                    owners[i] = NONE;
                    values[i] = LACK;
                }
            }
        }

        private static int owner(int trait, int person) {
            return trait * PEOPLE + person;
        }
    }
}
