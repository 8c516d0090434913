import java.util.NoSuchElementException;

/** A dictionary of four nets of words, which tells what the machine with the fewest states for each of them is. */
public final class Leastlex {
    private static final int NETS = 4;
    private static final int WORDS = 50;
    private static final int LETTERS = 8;
    private static final int LONGEST = 8;
    private static final int SIGNS = 10;
    private static final int MOST_OFTEN = 999;
    private static final int WIDEST_GAP = 3;
    private static final int HIGHEST_PRICE = 5;
    private static final int HIGHEST_LIMIT = 9;
    private static final int RULES = 8;
    private static final int LONGEST_ENDING = 4;
    private static final int FEWEST_ROWS = 2;
    private static final int MOST_ROWS = 4;
    private static final int SQUARES = 99;
    private static final int VERSIONS = 8;
    private static final int NONE = -1;

    private final Typed typed;
    private final Net[] nets;
    private final Net[] versions;
    private int versionCount;
    private final Neighbours neighbours;
    private final Rules rules;
    private final Machine machine;
    private final Packing packing;
    private final Field field;

    public Leastlex() {
        typed = new Typed();
        nets = new Net[NETS];
        for (int net = 0; net < NETS; net++) {
            nets[net] = new Net();
        }
        versions = new Net[VERSIONS];
        versionCount = 0;
        neighbours = new Neighbours();
        rules = new Rules();
        machine = new Machine();
        packing = new Packing();
        field = new Field();
    }

    // ---- typing

    public int type(char sign) throws IllegalArgumentException, IllegalStateException {
        if (!Typed.isSign(sign)) {
            throw new IllegalArgumentException("no such sign");
        }
        if (typed.count() >= SIGNS) {
            throw new IllegalStateException("10 signs are typed");
        }
        typed.append(sign);
        return typed.count();
    }

    public char back() throws UnsupportedOperationException {
        if (typed.count() == 0) {
            throw new UnsupportedOperationException("no sign is typed");
        }
        return typed.takeLast();
    }

    public int wipe() {
        int before = typed.count();
        typed.clear();
        return before;
    }

    // ---- words

    public int add(int net) throws IndexOutOfBoundsException, UnsupportedOperationException,
            IllegalArgumentException, IllegalStateException {
        Net words = netAt(net);
        long word = typedWord();
        if (words.holds(word)) {
            throw new IllegalArgumentException("the net has that word");
        }
        if (words.count() >= WORDS) {
            throw new IllegalStateException("the net has 50 words");
        }
        words.insert(word);
        return words.count();
    }

    public int drop(int net) throws IndexOutOfBoundsException, UnsupportedOperationException, NoSuchElementException {
        Net words = netAt(net);
        words.remove(placeIn(words, typedWord()));
        return words.count();
    }

    public boolean has(int net) throws IndexOutOfBoundsException {
        return netAt(net).holds(typed.letters());
    }

    public int size(int net) throws IndexOutOfBoundsException {
        return netAt(net).count();
    }

    public int setCount(int net, int count) throws IndexOutOfBoundsException, IllegalArgumentException,
            UnsupportedOperationException, NoSuchElementException {
        Net words = netAt(net);
        checkRange(count, 1, MOST_OFTEN);
        int place = placeIn(words, typedWord());
        int before = words.countAt(place);
        words.recount(place, count);
        return before;
    }

    public int countOf(int net, int number) throws IndexOutOfBoundsException, NoSuchElementException {
        Net words = netAt(net);
        checkNumber(words, number);
        return words.countAt(number);
    }

    // ---- states, numbers

    public int states(int net) throws IndexOutOfBoundsException {
        machine.build(netAt(net));
        return machine.count();
    }

    public int edges(int net) throws IndexOutOfBoundsException {
        machine.build(netAt(net));
        return machine.countEdges();
    }

    public int beginnings(int net) throws IndexOutOfBoundsException {
        return netAt(net).countBeginnings();
    }

    public int shared(int net, int other) throws IndexOutOfBoundsException {
        Net one = netAt(net);
        Net two = netAt(other);
        machine.build(two);
        int ofTwo = machine.count();
        machine.build(one);
        int ofOne = machine.count();
        // The machine holds like states once, so those of both are what is missing when it grows by the other net.
        machine.grow(two);
        return ofOne + ofTwo - machine.count();
    }

    public int number(int net) throws IndexOutOfBoundsException, UnsupportedOperationException,
            NoSuchElementException {
        Net words = netAt(net);
        return placeIn(words, typedWord());
    }

    public int lengthOf(int net, int number) throws IndexOutOfBoundsException, NoSuchElementException {
        Net words = netAt(net);
        checkNumber(words, number);
        return Word.span(words.wordAt(number));
    }

    public char letterOf(int net, int number, int index) throws IndexOutOfBoundsException, NoSuchElementException {
        Net words = netAt(net);
        checkNumber(words, number);
        int letter = Word.letterAt(words.wordAt(number), index);
        if (letter == 0) {
            throw new NoSuchElementException("no such letter");
        }
        return Word.signOf(letter);
    }

    public int beginning(int net) throws IndexOutOfBoundsException, UnsupportedOperationException {
        Net words = netAt(net);
        if (!typed.isLetters()) {
            throw new UnsupportedOperationException("a sign that is no letter is typed");
        }
        return typed.count() > LONGEST ? 0 : words.countBeginningWith(typed.letters());
    }

    // ---- neighbours

    public int setGap(int gap) throws IllegalArgumentException {
        checkRange(gap, 1, WIDEST_GAP);
        return neighbours.changeGap(gap);
    }

    public int setPrice(char letter, char other, int price) throws IllegalArgumentException {
        if (!Word.isLetter(letter) || !Word.isLetter(other)) {
            throw new IllegalArgumentException("no such letter");
        }
        if (letter == other) {
            throw new IllegalArgumentException("both letters are the same");
        }
        checkRange(price, 0, HIGHEST_PRICE);
        return neighbours.changePrice(Word.letterOfSign(letter), Word.letterOfSign(other), price);
    }

    public int distance(int net, int number) throws IndexOutOfBoundsException, UnsupportedOperationException,
            NoSuchElementException {
        Net words = netAt(net);
        long word = typedWord();
        checkNumber(words, number);
        return neighbours.between(word, words.wordAt(number));
    }

    public int near(int net, int limit) throws IndexOutOfBoundsException, IllegalArgumentException,
            UnsupportedOperationException {
        Net words = netAt(net);
        checkRange(limit, 0, HIGHEST_LIMIT);
        return neighbours.measure(words, typedWord(), limit);
    }

    public int nearAt(int net, int limit, int index) throws IndexOutOfBoundsException, IllegalArgumentException,
            UnsupportedOperationException, NoSuchElementException {
        Net words = netAt(net);
        checkRange(limit, 0, HIGHEST_LIMIT);
        int found = neighbours.measure(words, typedWord(), limit);
        if (index < 0 || index >= found) {
            throw new NoSuchElementException("no such near word");
        }
        return neighbours.ranked(words, index);
    }

    // ---- patterns, bags, rules, joined words

    public int matches(int net) throws IndexOutOfBoundsException {
        Net words = netAt(net);
        int found = 0;
        for (int number = 0; number < words.count(); number++) {
            if (typed.standsFor(words.wordAt(number))) {
                found++;
            }
        }
        return found;
    }

    public int matchAt(int net, int index) throws IndexOutOfBoundsException, NoSuchElementException {
        Net words = netAt(net);
        int ahead = 0;
        for (int number = 0; number < words.count(); number++) {
            if (typed.standsFor(words.wordAt(number))) {
                if (ahead == index) {
                    return number;
                }
                ahead++;
            }
        }
        throw new NoSuchElementException("no such match");
    }

    public int inBag(int net) throws IndexOutOfBoundsException, UnsupportedOperationException {
        Net words = netAt(net);
        return words.countInBag(typedWord(), false);
    }

    public int anagrams(int net) throws IndexOutOfBoundsException, UnsupportedOperationException {
        Net words = netAt(net);
        return words.countInBag(typedWord(), true);
    }

    public int addRule(int off) throws IllegalArgumentException, UnsupportedOperationException,
            IllegalStateException {
        checkRange(off, 0, LONGEST_ENDING);
        if (typed.count() > LONGEST_ENDING || !typed.isLetters()) {
            throw new UnsupportedOperationException("no ending of at most 4 letters is typed");
        }
        if (rules.count() >= RULES) {
            throw new IllegalStateException("there are 8 rules");
        }
        return rules.append(off, typed.letters());
    }

    public int readings(int net) throws IndexOutOfBoundsException, UnsupportedOperationException {
        Net words = netAt(net);
        return rules.countReadings(words, typedWord());
    }

    public int readingWord(int net, int index) throws IndexOutOfBoundsException, UnsupportedOperationException,
            NoSuchElementException {
        return readingAt(net, index) / RULES;
    }

    public int readingRule(int net, int index) throws IndexOutOfBoundsException, UnsupportedOperationException,
            NoSuchElementException {
        return readingAt(net, index) % RULES;
    }

    public int joins(int net) throws IndexOutOfBoundsException, UnsupportedOperationException {
        Net words = netAt(net);
        return words.countJoins(typedWord());
    }

    // ---- squares

    public int squares(int net, int rows) throws IndexOutOfBoundsException, IllegalArgumentException {
        Net words = netAt(net);
        checkRange(rows, FEWEST_ROWS, MOST_ROWS);
        return field.seek(machine, words, rows, SQUARES);
    }

    public int squareAt(int net, int rows, int index, int row) throws IndexOutOfBoundsException,
            IllegalArgumentException, NoSuchElementException {
        Net words = netAt(net);
        checkRange(rows, FEWEST_ROWS, MOST_ROWS);
        if (index < 0 || index >= SQUARES || row < 0 || row >= rows) {
            throw new NoSuchElementException("no such square or row");
        }
        if (field.seek(machine, words, rows, index + 1) <= index) {
            throw new NoSuchElementException("no such square");
        }
        return words.placeOf(field.wordInRow(row));
    }

    // ---- versions

    public int keep(int net) throws IndexOutOfBoundsException, IllegalStateException {
        Net words = netAt(net);
        if (versionCount >= VERSIONS) {
            throw new IllegalStateException("8 versions are kept");
        }
        Net version = new Net();
        version.copyFrom(words);
        versions[versionCount] = version;
        versionCount++;
        return versionCount - 1;
    }

    public int lay(int version, int net) throws IndexOutOfBoundsException {
        Net from = versionAt(version);
        Net words = netAt(net);
        int before = words.count();
        words.copyFrom(from);
        return before;
    }

    public int added(int version, int net) throws IndexOutOfBoundsException {
        Net before = versionAt(version);
        return netAt(net).countMissingIn(before);
    }

    public int dropped(int version, int net) throws IndexOutOfBoundsException {
        Net before = versionAt(version);
        return before.countMissingIn(netAt(net));
    }

    // ---- packing

    public int packed(int net) throws IndexOutOfBoundsException {
        machine.build(netAt(net));
        packing.pack(machine);
        return packing.length();
    }

    public char packedAt(int net, int place) throws IndexOutOfBoundsException, NoSuchElementException {
        machine.build(netAt(net));
        packing.pack(machine);
        if (place < 0 || place >= packing.length()) {
            throw new NoSuchElementException("no such place");
        }
        int letter = packing.letterIn(place);
        return letter == 0 ? '-' : Word.signOf(letter);
    }

    // ---- figures

    public long checksum() {
        long sum = 7;
        for (int net = 0; net < NETS; net++) {
            Net words = netAt(net);
            for (int number = 0; number < words.count(); number++) {
                sum = sum * 31 + Word.value(words.wordAt(number));
                sum = sum * 31 + words.countAt(number);
            }
        }
        return sum * 31 + typed.count();
    }

    public float stateShare(int net) throws IndexOutOfBoundsException, ArithmeticException {
        Net words = netAt(net);
        int unlike = words.countBeginnings();
        if (unlike == 0) {
            throw new ArithmeticException("the net has no words");
        }
        machine.build(words);
        return (float) machine.count() / (float) unlike;
    }

    public double meanLength(int net) throws IndexOutOfBoundsException, ArithmeticException {
        Net words = netAt(net);
        if (words.count() == 0) {
            throw new ArithmeticException("the net has no words");
        }
        int sum = 0;
        for (int number = 0; number < words.count(); number++) {
            sum += Word.span(words.wordAt(number));
        }
        return (double) sum / (double) words.count();
    }

    public boolean isSound() {
        for (int net = 0; net < NETS; net++) {
            if (!isWellHeld(netAt(net))) {
                return false;
            }
        }
        return true;
    }

    // ---- what several calls need

    private Net netAt(int net) {
        Net found = net >= 0 && net < NETS ? nets[net] : null;
        if (found == null) {
            throw new IndexOutOfBoundsException("no such net");
        }
        return found;
    }

    private Net versionAt(int version) {
        Net found = version >= 0 && version < versionCount ? versions[version] : null;
        if (found == null) {
            throw new IndexOutOfBoundsException("no such version");
        }
        return found;
    }

    private long typedWord() {
        long word = typed.letters();
        if (word == Word.EMPTY) {
            throw new UnsupportedOperationException("no word is typed");
        }
        return word;
    }

    private static int placeIn(Net words, long word) {
        if (!words.holds(word)) {
            throw new NoSuchElementException("the net does not have that word");
        }
        return words.placeOf(word);
    }

    private static void checkNumber(Net words, int number) {
        if (number < 0 || number >= words.count()) {
            throw new NoSuchElementException("no such word");
        }
    }

    private static void checkRange(int number, int least, int most) {
        if (number < least || number > most) {
            throw new IllegalArgumentException("a number is out of range");
        }
    }

    private int readingAt(int net, int index) {
        Net words = netAt(net);
        int reading = rules.findReading(words, typedWord(), index);
        if (reading == NONE) {
            throw new NoSuchElementException("no such reading");
        }
        return reading;
    }

    private boolean isWellHeld(Net words) {
        machine.build(words);
        packing.pack(machine);
        if (machine.count() > words.countBeginnings() || machine.hasLikeStates()) {
            return false;
        }
        for (int number = 0; number < words.count(); number++) {
            long word = words.wordAt(number);
            if (machine.trace(word) != number || !packing.finds(machine, word)) {
                return false;
            }
        }
        return true;
    }

    /**
     * Words, and beginnings and endings of them, as numbers: four bits a letter, 1 for 'a', 2 for 'b', and so on,
     * the first letter highest. So the order of the numbers is that of a dictionary.
     */
    private static final class Word {
        private static final long EMPTY = 0;
        private static final int BITS = 4;
        private static final int ALL_BITS = 15;

        private Word() {
        }

        static boolean isLetter(char sign) {
            return sign >= 'a' && sign < 'a' + LETTERS;
        }

        static int letterOfSign(char sign) {
            return sign - 'a' + 1;
        }

        static char signOf(int letter) {
            return (char) ('a' + letter - 1);
        }

        /** The letter, 1 to 8, or 0 where the word has none. */
        static int letterAt(long word, int index) {
            if (index < 0 || index >= LONGEST) {
                return 0;
            }
            return (int) (word >> (LONGEST - 1 - index) * BITS) & ALL_BITS;
        }

        static long with(long word, int index, int letter) {
            return word | (long) letter << (LONGEST - 1 - index) * BITS;
        }

        static int span(long word) {
            int span = 0;
            while (span < LONGEST && letterAt(word, span) != 0) {
                span++;
            }
            return span;
        }

        static long part(long word, int from, int to) {
            long part = EMPTY;
            for (int index = from; index < to && index < LONGEST; index++) {
                part = with(part, index - from, letterAt(word, index));
            }
            return part;
        }

        static int countAlike(long word, long other) {
            int alike = 0;
            while (alike < LONGEST && letterAt(word, alike) != 0
                    && letterAt(word, alike) == letterAt(other, alike)) {
                alike++;
            }
            return alike;
        }

        static int countLetter(long word, int letter) {
            int found = 0;
            for (int index = 0; index < LONGEST; index++) {
                if (letterAt(word, index) == letter) {
                    found++;
                }
            }
            return found;
        }

        /** Whether the bag has each letter at least as often as the word. */
        static boolean isWithin(long word, long bag) {
            for (int letter = 1; letter <= LETTERS; letter++) {
                if (countLetter(word, letter) > countLetter(bag, letter)) {
                    return false;
                }
            }
            return true;
        }

        static int value(long word) {
            int value = 0;
            for (int index = 0; index < LONGEST && letterAt(word, index) != 0; index++) {
                value = value * 9 + letterAt(word, index);
            }
            return value;
        }
    }

    /** What is typed: at most 10 signs. */
    private static final class Typed {
        private final char[] signs = new char[SIGNS];
        private int count;

        static boolean isSign(char sign) {
            return sign == '?' || sign == '*' || Word.isLetter(sign);
        }

        int count() {
            return count;
        }

        void append(char sign) {
            if (count < SIGNS) {
                signs[count] = sign;
                count++;
            }
        }

        char takeLast() {
            if (count < 1 || count > SIGNS) {
                return '-';
            }
            count--;
            return signs[count];
        }

        void clear() {
            count = 0;
        }

        boolean isLetters() {
            for (int index = 0; index < count && index < SIGNS; index++) {
                if (!Word.isLetter(signs[index])) {
                    return false;
                }
            }
            return true;
        }

        /** The letters typed, or EMPTY if something else is typed or more than a word may have. */
        long letters() {
            if (count > LONGEST || !isLetters()) {
                return Word.EMPTY;
            }
            long letters = Word.EMPTY;
            for (int index = 0; index < count && index < SIGNS; index++) {
                letters = Word.with(letters, index, Word.letterOfSign(signs[index]));
            }
            return letters;
        }

        /** Whether the signs, as a pattern, stand for a word. */
        boolean standsFor(long word) {
            int span = Word.span(word);
            // Bit i tells whether the signs so far can stand for the first i letters.
            int reached = 1;
            for (int index = 0; index < count && index < SIGNS; index++) {
                reached = reachedBy(signs[index], reached, word, span);
            }
            return (reached >> span & 1) == 1;
        }

        private static int reachedBy(char sign, int before, long word, int span) {
            int after = 0;
            boolean any = false;
            for (int at = 0; at <= span; at++) {
                boolean here = (before >> at & 1) == 1;
                any = any || here;
                if (sign == '*') {
                    after |= any ? 1 << at : 0;
                } else if (here && at < span && isFor(sign, Word.letterAt(word, at))) {
                    after |= 1 << (at + 1);
                }
            }
            return after;
        }

        private static boolean isFor(char sign, int letter) {
            return sign == '?' || sign == Word.signOf(letter);
        }
    }

    /** Words in the order of a dictionary, with their counts: a net, or a version of one. */
    private static final class Net {
        private final long[] words = new long[WORDS];
        private final int[] counts = new int[WORDS];
        private int count;

        int count() {
            return count;
        }

        long wordAt(int number) {
            return number >= 0 && number < count && number < WORDS ? words[number] : Word.EMPTY;
        }

        int countAt(int number) {
            return number >= 0 && number < count && number < WORDS ? counts[number] : 0;
        }

        /** How many words are ahead of a word, be it in the net or not. */
        int placeOf(long word) {
            int place = 0;
            while (place < count && place < WORDS && words[place] < word) {
                place++;
            }
            return place;
        }

        boolean holds(long word) {
            return word != Word.EMPTY && wordAt(placeOf(word)) == word;
        }

        void insert(long word) {
            int place = placeOf(word);
            if (count >= WORDS) {
                return;
            }
            for (int to = count; to > place; to--) {
                words[to] = words[to - 1];
                counts[to] = counts[to - 1];
            }
            words[place] = word;
            counts[place] = 1;
            count++;
        }

        void append(long word) {
            if (count < WORDS) {
                words[count] = word;
                counts[count] = 1;
                count++;
            }
        }

        void remove(int place) {
            if (place < 0 || place >= count) {
                return;
            }
            count--;
            for (int to = place; to < count && to < WORDS - 1; to++) {
                words[to] = words[to + 1];
                counts[to] = counts[to + 1];
            }
        }

        void recount(int place, int howOften) {
            if (place >= 0 && place < count && place < WORDS) {
                counts[place] = howOften;
            }
        }

        void copyFrom(Net other) {
            for (int number = 0; number < other.count && number < WORDS; number++) {
                words[number] = other.words[number];
                counts[number] = other.counts[number];
            }
            count = other.count;
        }

        void copyThoseOfSpan(Net other, int span) {
            count = 0;
            for (int number = 0; number < other.count; number++) {
                long word = other.wordAt(number);
                if (Word.span(word) == span) {
                    append(word);
                }
            }
        }

        int countBeginnings() {
            int unlike = count == 0 ? 0 : 1;
            long before = Word.EMPTY;
            for (int number = 0; number < count; number++) {
                long word = wordAt(number);
                unlike += Word.span(word) - Word.countAlike(before, word);
                before = word;
            }
            return unlike;
        }

        int countBeginningWith(long letters) {
            int span = Word.span(letters);
            int found = 0;
            for (int number = 0; number < count; number++) {
                if (Word.part(wordAt(number), 0, span) == letters) {
                    found++;
                }
            }
            return found;
        }

        /** How many words are in the bag of a word's letters, or, if all of these are wanted, are its anagrams. */
        int countInBag(long bag, boolean wantsAll) {
            int found = 0;
            for (int number = 0; number < count; number++) {
                long word = wordAt(number);
                if (Word.isWithin(word, bag) && (!wantsAll || Word.isWithin(bag, word))) {
                    found++;
                }
            }
            return found;
        }

        int countMissingIn(Net other) {
            int missing = 0;
            for (int number = 0; number < count; number++) {
                if (!other.holds(wordAt(number))) {
                    missing++;
                }
            }
            return missing;
        }

        /** In how many ways a word is put together of words of the net. */
        int countJoins(long word) {
            int span = Word.span(word);
            int[] ways = new int[LONGEST + 1];
            ways[0] = 1;
            for (int to = 1; to <= span && to <= LONGEST; to++) {
                for (int from = 0; from < to; from++) {
                    if (ways[from] > 0 && holds(Word.part(word, from, to))) {
                        ways[to] += ways[from];
                    }
                }
            }
            return span <= LONGEST ? ways[span] : 0;
        }
    }

    /** The costs of typing wrongly, and the distances and ranks of words by them. */
    private static final class Neighbours {
        private final int[] prices = new int[LETTERS * LETTERS];
        private final int[] line = new int[LONGEST + 1];
        private final int[] distances = new int[WORDS];
        private int gap;

        Neighbours() {
            gap = 1;
            for (int pair = 0; pair < LETTERS * LETTERS; pair++) {
                prices[pair] = pair / LETTERS == pair % LETTERS ? 0 : 1;
            }
        }

        int changeGap(int wanted) {
            int before = gap;
            gap = wanted;
            return before;
        }

        int changePrice(int letter, int other, int wanted) {
            int before = priceOf(letter, other);
            setOneWay(letter, other, wanted);
            setOneWay(other, letter, wanted);
            return before;
        }

        private void setOneWay(int letter, int other, int wanted) {
            if (isPair(letter, other)) {
                prices[(letter - 1) * LETTERS + other - 1] = wanted;
            }
        }

        private int priceOf(int letter, int other) {
            return isPair(letter, other) ? prices[(letter - 1) * LETTERS + other - 1] : 0;
        }

        private static boolean isPair(int letter, int other) {
            return letter >= 1 && letter <= LETTERS && other >= 1 && other <= LETTERS;
        }

        int between(long word, long other) {
            int height = Word.span(word);
            int width = Word.span(other);
            for (int across = 0; across <= width && across <= LONGEST; across++) {
                line[across] = across * gap;
            }
            for (int down = 1; down <= height; down++) {
                int aslant = line[0];
                line[0] = down * gap;
                for (int across = 1; across <= width && across <= LONGEST; across++) {
                    int above = line[across];
                    int changed = aslant + priceOf(Word.letterAt(word, down - 1), Word.letterAt(other, across - 1));
                    line[across] = Math.min(changed, Math.min(above, line[across - 1]) + gap);
                    aslant = above;
                }
            }
            return width <= LONGEST ? line[width] : 0;
        }

        /** Measures the words of a net and tells how many are near. */
        int measure(Net net, long word, int limit) {
            int found = 0;
            for (int number = 0; number < net.count() && number < WORDS; number++) {
                distances[number] = between(word, net.wordAt(number));
                if (distances[number] <= limit) {
                    found++;
                }
            }
            return found;
        }

        /** The word that has so many of those measured ahead of it. */
        int ranked(Net net, int rank) {
            for (int number = 0; number < net.count(); number++) {
                if (countAhead(net, number) == rank) {
                    return number;
                }
            }
            return NONE;
        }

        private int countAhead(Net net, int number) {
            int ahead = 0;
            for (int other = 0; other < net.count(); other++) {
                if (isAhead(net, other, number)) {
                    ahead++;
                }
            }
            return ahead;
        }

        private boolean isAhead(Net net, int one, int two) {
            if (one < 0 || one >= WORDS || two < 0 || two >= WORDS) {
                return false;
            }
            if (distances[one] != distances[two]) {
                return distances[one] < distances[two];
            }
            if (net.countAt(one) != net.countAt(two)) {
                return net.countAt(one) > net.countAt(two);
            }
            return one < two;
        }
    }

    /** The rules of endings. A reading is told as its word's number times RULES plus its rule's number. */
    private static final class Rules {
        private final int[] offs = new int[RULES];
        private final long[] endings = new long[RULES];
        private int count;

        int count() {
            return count;
        }

        int append(int off, long ending) {
            if (count >= RULES) {
                return NONE;
            }
            offs[count] = off;
            endings[count] = ending;
            count++;
            return count - 1;
        }

        int countReadings(Net net, long wanted) {
            int found = 0;
            for (int reading = 0; reading < net.count() * RULES; reading++) {
                if (isReading(net, reading, wanted)) {
                    found++;
                }
            }
            return found;
        }

        int findReading(Net net, long wanted, int index) {
            int ahead = 0;
            for (int reading = 0; reading < net.count() * RULES; reading++) {
                if (isReading(net, reading, wanted)) {
                    if (ahead == index) {
                        return reading;
                    }
                    ahead++;
                }
            }
            return NONE;
        }

        private boolean isReading(Net net, int reading, long wanted) {
            int rule = reading % RULES;
            if (rule < 0 || rule >= count) {
                return false;
            }
            long word = net.wordAt(reading / RULES);
            int left = Word.span(word) - offs[rule];
            return left > 0 && left + Word.span(endings[rule]) == Word.span(wanted)
                    && Word.part(wanted, 0, left) == Word.part(word, 0, left)
                    && Word.part(wanted, left, LONGEST) == endings[rule];
        }
    }

    /** The states of a net, or of several ones, each once. A state is made behind all those to which it goes on. */
    private static final class Machine {
        // Two nets have no more beginnings than these, and so no more states.
        private static final int STATES = 2 * (WORDS * LONGEST + 1);
        private static final int BUCKETS = 64;

        private final int[] targets = new int[STATES * LETTERS];
        private final boolean[] ends = new boolean[STATES];
        private final int[] restCounts = new int[STATES];
        private final int[] older = new int[STATES];
        private final int[] newest = new int[BUCKETS];
        // The states of the beginnings of the word at hand, a row each, while they still get rests.
        private final int[] draftTargets = new int[(LONGEST + 1) * LETTERS];
        private final boolean[] draftEnds = new boolean[LONGEST + 1];
        private int count;
        private int root;

        void build(Net net) {
            count = 0;
            for (int bucket = 0; bucket < BUCKETS; bucket++) {
                newest[bucket] = NONE;
            }
            grow(net);
        }

        /** Adds the states of a net that it does not have yet, from words in their order. */
        void grow(Net net) {
            long before = Word.EMPTY;
            clearDraft(0, false);
            for (int number = 0; number < net.count(); number++) {
                long word = net.wordAt(number);
                int alike = Word.countAlike(before, word);
                settleBeyond(before, alike);
                int span = Word.span(word);
                for (int depth = alike + 1; depth <= span; depth++) {
                    clearDraft(depth, depth == span);
                }
                before = word;
            }
            settleBeyond(before, 0);
            root = net.count() == 0 ? NONE : settled(0);
        }

        int count() {
            return count;
        }

        int root() {
            return root;
        }

        int countEdges() {
            int found = 0;
            for (int edge = 0; edge < count * LETTERS && edge < STATES * LETTERS; edge++) {
                if (targets[edge] != NONE) {
                    found++;
                }
            }
            return found;
        }

        private boolean isState(int state) {
            return state >= 0 && state < count && state < STATES;
        }

        /** The state to which a state goes on by a letter, or NONE. */
        int after(int state, int letter) {
            if (!isState(state) || letter < 1 || letter > LETTERS) {
                return NONE;
            }
            return targets[state * LETTERS + letter - 1];
        }

        boolean goesOn(int state) {
            for (int letter = 1; letter <= LETTERS; letter++) {
                if (after(state, letter) != NONE) {
                    return true;
                }
            }
            return false;
        }

        boolean isEnd(int state) {
            return isState(state) && ends[state];
        }

        private int restsOf(int state) {
            return isState(state) ? restCounts[state] : 0;
        }

        /** The number of a word by its letters alone, or NONE. */
        int trace(long word) {
            int state = root;
            int ahead = 0;
            int span = Word.span(word);
            for (int index = 0; index < span; index++) {
                int letter = Word.letterAt(word, index);
                ahead += isEnd(state) ? 1 : 0;
                for (int lower = 1; lower < letter; lower++) {
                    ahead += restsOf(after(state, lower));
                }
                state = after(state, letter);
            }
            return isEnd(state) ? ahead : NONE;
        }

        /** States go on to older ones only, so two with like rests show as two that go on alike. */
        boolean hasLikeStates() {
            for (int state = 0; state < count; state++) {
                for (int other = 0; other < state; other++) {
                    if (goAlike(state, other)) {
                        return true;
                    }
                }
            }
            return false;
        }

        private boolean goAlike(int state, int other) {
            if (isEnd(state) != isEnd(other)) {
                return false;
            }
            for (int letter = 1; letter <= LETTERS; letter++) {
                if (after(state, letter) != after(other, letter)) {
                    return false;
                }
            }
            return true;
        }

        private void clearDraft(int depth, boolean isEnd) {
            if (depth < 0 || depth > LONGEST) {
                return;
            }
            draftEnds[depth] = isEnd;
            for (int column = 0; column < LETTERS; column++) {
                draftTargets[depth * LETTERS + column] = NONE;
            }
        }

        /** Later words do not begin with so many letters of this one: those beginnings get no more rests. */
        private void settleBeyond(long word, int alike) {
            for (int depth = Word.span(word); depth > alike && depth > 0; depth--) {
                int state = settled(depth);
                int letter = Word.letterAt(word, depth - 1);
                if (depth <= LONGEST && letter >= 1 && letter <= LETTERS) {
                    draftTargets[(depth - 1) * LETTERS + letter - 1] = state;
                }
            }
        }

        /** The state of the beginning drafted with so many letters: an older one with the same rests, or a new one. */
        private int settled(int depth) {
            if (depth < 0 || depth > LONGEST) {
                return NONE;
            }
            int bucket = bucketOf(depth);
            int state = bucket >= 0 && bucket < BUCKETS ? newest[bucket] : NONE;
            for (int step = 0; step < STATES && isState(state); step++) {
                if (isDrafted(state, depth)) {
                    return state;
                }
                state = older[state];
            }
            return made(depth, bucket);
        }

        private int bucketOf(int depth) {
            if (depth < 0 || depth > LONGEST) {
                return 0;
            }
            int hash = draftEnds[depth] ? 1 : 0;
            for (int column = 0; column < LETTERS; column++) {
                hash = hash * 31 + draftTargets[depth * LETTERS + column];
            }
            return Math.floorMod(hash, BUCKETS);
        }

        private boolean isDrafted(int state, int depth) {
            if (state < 0 || state >= STATES || depth < 0 || depth > LONGEST || ends[state] != draftEnds[depth]) {
                return false;
            }
            for (int column = 0; column < LETTERS; column++) {
                if (targets[state * LETTERS + column] != draftTargets[depth * LETTERS + column]) {
                    return false;
                }
            }
            return true;
        }

        private int made(int depth, int bucket) {
            if (count >= STATES || depth < 0 || depth > LONGEST || bucket < 0 || bucket >= BUCKETS) {
                return NONE;
            }
            int state = count;
            ends[state] = draftEnds[depth];
            restCounts[state] = ends[state] ? 1 : 0;
            for (int column = 0; column < LETTERS; column++) {
                int target = draftTargets[depth * LETTERS + column];
                targets[state * LETTERS + column] = target;
                restCounts[state] += target >= 0 && target < state ? restCounts[target] : 0;
            }
            older[state] = newest[bucket];
            newest[bucket] = state;
            count++;
            return state;
        }
    }

    /** The states of one net, packed into one row. */
    private static final class Packing {
        private static final int STATES = WORDS * LONGEST + 1;
        // A start is barred by a letter that stands already, in at most 8 ways, or by a state that has it.
        private static final int PLACES = LETTERS * STATES + STATES + LETTERS;
        private static final int LETTER_BITS = 15;
        private static final int START_BIT = 16;

        // At a place its letter, 0 for none, and the start bit if a state starts there.
        private final int[] row = new int[PLACES];
        private final int[] order = new int[STATES];
        private final int[] starts = new int[STATES];
        private final boolean[] isMet = new boolean[STATES];
        private int met;
        private int length;

        void pack(Machine machine) {
            clear();
            meet(machine, machine.root());
            for (int turn = 0; turn < met && turn < STATES; turn++) {
                int state = order[turn];
                place(machine, state);
                for (int letter = 1; letter <= LETTERS; letter++) {
                    meet(machine, machine.after(state, letter));
                }
            }
        }

        int length() {
            return length;
        }

        int letterIn(int place) {
            return place >= 0 && place < length && place < PLACES ? row[place] & LETTER_BITS : 0;
        }

        /** Whether a word's letters all stand in the row where their states start. */
        boolean finds(Machine machine, long word) {
            int state = machine.root();
            int span = Word.span(word);
            for (int index = 0; index < span; index++) {
                int letter = Word.letterAt(word, index);
                // No two states have one start, so a letter that fits its place is this state's own.
                if (state < 0 || state >= STATES || letterIn(starts[state] + letter - 1) != letter) {
                    return false;
                }
                state = machine.after(state, letter);
            }
            return machine.isEnd(state);
        }

        private void clear() {
            for (int place = 0; place < length && place < PLACES; place++) {
                row[place] = 0;
            }
            for (int state = 0; state < STATES; state++) {
                isMet[state] = false;
                starts[state] = NONE;
            }
            met = 0;
            length = 0;
        }

        private void meet(Machine machine, int state) {
            if (state < 0 || state >= STATES || isMet[state] || met >= STATES || !machine.goesOn(state)) {
                return;
            }
            isMet[state] = true;
            order[met] = state;
            met++;
        }

        private void place(Machine machine, int state) {
            for (int start = 0; start <= PLACES - LETTERS; start++) {
                if (fits(machine, state, start)) {
                    put(machine, state, start);
                    return;
                }
            }
        }

        private boolean fits(Machine machine, int state, int start) {
            if (start < 0 || start > PLACES - LETTERS || (row[start] & START_BIT) != 0) {
                return false;
            }
            for (int letter = 1; letter <= LETTERS; letter++) {
                if (machine.after(state, letter) != NONE && (row[start + letter - 1] & LETTER_BITS) != 0) {
                    return false;
                }
            }
            return true;
        }

        private void put(Machine machine, int state, int start) {
            if (state < 0 || state >= STATES || start < 0 || start > PLACES - LETTERS) {
                return;
            }
            starts[state] = start;
            row[start] |= START_BIT;
            for (int letter = 1; letter <= LETTERS; letter++) {
                if (machine.after(state, letter) != NONE) {
                    row[start + letter - 1] |= letter;
                    length = Math.max(length, start + letter);
                }
            }
        }
    }

    /** The field of letters in which squares are sought, cell by cell, row by row. */
    private static final class Field {
        private static final int CELLS = MOST_ROWS * MOST_ROWS;

        private final Net fitting = new Net();
        private final int[] letters = new int[CELLS];
        private final int[] across = new int[CELLS];
        private final int[] down = new int[CELLS];
        private int rows;
        private int most;
        private int found;

        /** Tells how many squares there are, as far as the most wanted; the last one found stays in the field. */
        int seek(Machine machine, Net net, int rowCount, int mostWanted) {
            rows = rowCount;
            most = mostWanted;
            found = 0;
            fitting.copyThoseOfSpan(net, rowCount);
            machine.build(fitting);
            fill(this, machine, 0);
            return found;
        }

        long wordInRow(int row) {
            long word = Word.EMPTY;
            for (int column = 0; column < rows; column++) {
                int cell = row * rows + column;
                if (cell >= 0 && cell < CELLS) {
                    word = Word.with(word, column, letters[cell]);
                }
            }
            return word;
        }

        private static void fill(Field field, Machine machine, int cell) {
            if (cell >= field.rows * field.rows || cell >= CELLS) {
                field.found++;
                return;
            }
            int before = field.stateBefore(machine, cell);
            int above = field.stateAbove(machine, cell);
            for (int letter = 1; letter <= LETTERS && field.found < field.most; letter++) {
                int nextAcross = machine.after(before, letter);
                int nextDown = machine.after(above, letter);
                if (cell >= 0 && nextAcross != NONE && nextDown != NONE) {
                    field.letters[cell] = letter;
                    field.across[cell] = nextAcross;
                    field.down[cell] = nextDown;
                    fill(field, machine, cell + 1);
                }
            }
        }

        private int stateBefore(Machine machine, int cell) {
            boolean isFirst = rows < 1 || cell < 1 || cell > CELLS || cell % rows == 0;
            return isFirst ? machine.root() : across[cell - 1];
        }

        private int stateAbove(Machine machine, int cell) {
            boolean isFirst = rows < 1 || cell < rows || cell >= CELLS;
            return isFirst ? machine.root() : down[cell - rows];
        }
    }
}
