import java.util.ArrayList;
import java.util.HashMap;
import java.util.HashSet;
import java.util.List;
import java.util.Map;
import java.util.NoSuchElementException;
import java.util.Set;
import java.util.TreeMap;
import java.util.TreeSet;

/** What the document says, written down as plainly as can be over texts and sets, to compare the program with. */
final class Model {
    record Rule(int off, String put) {
    }

    private String typed = "";
    private final List<TreeMap<String, Integer>> nets = new ArrayList<>();
    private final List<TreeMap<String, Integer>> versions = new ArrayList<>();
    private final List<Rule> rules = new ArrayList<>();
    private final Map<String, Integer> prices = new HashMap<>();
    private int gap = 1;

    Model() {
        for (int net = 0; net < 4; net++) {
            nets.add(new TreeMap<>());
        }
    }

    private TreeMap<String, Integer> net(int net) {
        demand(net >= 0 && net < 4, new IndexOutOfBoundsException());
        return nets.get(net);
    }

    private static void demand(boolean met, RuntimeException otherwise) {
        if (!met) {
            throw otherwise;
        }
    }

    private static void inRange(int number, int least, int most) {
        demand(number >= least && number <= most, new IllegalArgumentException());
    }

    private void wordIsTyped() {
        demand(typed.matches("[a-h]{1,8}"), new UnsupportedOperationException());
    }

    private static <T> T pick(List<T> list, int index) {
        demand(index >= 0 && index < list.size(), new NoSuchElementException());
        return list.get(index);
    }

    private List<String> words(int net) {
        return new ArrayList<>(net(net).keySet());
    }

    String typed() {
        return typed;
    }

    int type(char sign) {
        demand("abcdefgh?*".indexOf(sign) >= 0, new IllegalArgumentException());
        demand(typed.length() < 10, new IllegalStateException());
        typed += sign;
        return typed.length();
    }

    char back() {
        demand(!typed.isEmpty(), new UnsupportedOperationException());
        char last = typed.charAt(typed.length() - 1);
        typed = typed.substring(0, typed.length() - 1);
        return last;
    }

    int wipe() {
        int before = typed.length();
        typed = "";
        return before;
    }

    int add(int net) {
        Map<String, Integer> words = net(net);
        wordIsTyped();
        demand(!words.containsKey(typed), new IllegalArgumentException());
        demand(words.size() < 50, new IllegalStateException());
        words.put(typed, 1);
        return words.size();
    }

    int drop(int net) {
        Map<String, Integer> words = net(net);
        wordIsTyped();
        demand(words.containsKey(typed), new NoSuchElementException());
        words.remove(typed);
        return words.size();
    }

    boolean has(int net) {
        return net(net).containsKey(typed);
    }

    int size(int net) {
        return net(net).size();
    }

    int setCount(int net, int count) {
        Map<String, Integer> words = net(net);
        inRange(count, 1, 999);
        wordIsTyped();
        demand(words.containsKey(typed), new NoSuchElementException());
        return words.put(typed, count);
    }

    int countOf(int net, int number) {
        return net(net).get(pick(words(net), number));
    }

    /** For each beginning, in order, the rests that make words of it. */
    private TreeMap<String, TreeSet<String>> rests(int net) {
        TreeMap<String, TreeSet<String>> rests = new TreeMap<>();
        for (String word : words(net)) {
            for (int i = 0; i <= word.length(); i++) {
                rests.computeIfAbsent(word.substring(0, i), any -> new TreeSet<>()).add(word.substring(i));
            }
        }
        return rests;
    }

    private static TreeSet<Character> firsts(Set<String> rests) {
        TreeSet<Character> firsts = new TreeSet<>();
        for (String rest : rests) {
            if (!rest.isEmpty()) {
                firsts.add(rest.charAt(0));
            }
        }
        return firsts;
    }

    int states(int net) {
        return new HashSet<>(rests(net).values()).size();
    }

    int edges(int net) {
        int edges = 0;
        for (Set<String> rests : new HashSet<>(rests(net).values())) {
            edges += firsts(rests).size();
        }
        return edges;
    }

    int beginnings(int net) {
        return rests(net).size();
    }

    int shared(int net, int other) {
        Set<TreeSet<String>> one = new HashSet<>(rests(net).values());
        one.retainAll(new HashSet<>(rests(other).values()));
        return one.size();
    }

    int number(int net) {
        net(net);
        wordIsTyped();
        demand(net(net).containsKey(typed), new NoSuchElementException());
        return words(net).indexOf(typed);
    }

    int lengthOf(int net, int number) {
        return pick(words(net), number).length();
    }

    char letterOf(int net, int number, int index) {
        String word = pick(words(net), number);
        demand(index >= 0 && index < word.length(), new NoSuchElementException());
        return word.charAt(index);
    }

    int beginning(int net) {
        net(net);
        demand(typed.matches("[a-h]*"), new UnsupportedOperationException());
        int found = 0;
        for (String word : words(net)) {
            found += word.startsWith(typed) ? 1 : 0;
        }
        return found;
    }

    int setGap(int wanted) {
        inRange(wanted, 1, 3);
        int before = gap;
        gap = wanted;
        return before;
    }

    private static String pair(char one, char two) {
        return one < two ? "" + one + two : "" + two + one;
    }

    int setPrice(char letter, char other, int price) {
        demand("abcdefgh".indexOf(letter) >= 0, new IllegalArgumentException());
        demand("abcdefgh".indexOf(other) >= 0, new IllegalArgumentException());
        demand(letter != other, new IllegalArgumentException());
        inRange(price, 0, 5);
        Integer before = prices.put(pair(letter, other), price);
        return before == null ? 1 : before;
    }

    private int apart(String one, String two) {
        int[][] least = new int[one.length() + 1][two.length() + 1];
        for (int i = one.length(); i >= 0; i--) {
            for (int j = two.length(); j >= 0; j--) {
                boolean hasOne = i < one.length();
                boolean hasTwo = j < two.length();
                int cost = hasOne || hasTwo ? 9999 : 0;
                if (hasOne) {
                    cost = Math.min(cost, gap + least[i + 1][j]);
                }
                if (hasTwo) {
                    cost = Math.min(cost, gap + least[i][j + 1]);
                }
                if (hasOne && hasTwo) {
                    char a = one.charAt(i);
                    char b = two.charAt(j);
                    int price = a == b ? 0 : prices.getOrDefault(pair(a, b), 1);
                    cost = Math.min(cost, price + least[i + 1][j + 1]);
                }
                least[i][j] = cost;
            }
        }
        return least[0][0];
    }

    int distance(int net, int number) {
        net(net);
        wordIsTyped();
        return apart(typed, pick(words(net), number));
    }

    private List<Integer> nearOnes(int net, int limit) {
        net(net);
        inRange(limit, 0, 9);
        wordIsTyped();
        List<String> words = words(net);
        List<Integer> numbers = new ArrayList<>();
        for (int number = 0; number < words.size(); number++) {
            if (apart(typed, words.get(number)) <= limit) {
                numbers.add(number);
            }
        }
        // The sort is stable, so of like ones the least number stays first.
        numbers.sort((a, b) -> {
            int byDistance = apart(typed, words.get(a)) - apart(typed, words.get(b));
            return byDistance != 0 ? byDistance : net(net).get(words.get(b)) - net(net).get(words.get(a));
        });
        return numbers;
    }

    int near(int net, int limit) {
        return nearOnes(net, limit).size();
    }

    int nearAt(int net, int limit, int index) {
        return pick(nearOnes(net, limit), index);
    }

    private List<Integer> matching(int net) {
        String pattern = typed.replace("*", "[a-h]*").replace("?", "[a-h]");
        List<Integer> numbers = new ArrayList<>();
        List<String> words = words(net);
        for (int number = 0; number < words.size(); number++) {
            if (words.get(number).matches(pattern)) {
                numbers.add(number);
            }
        }
        return numbers;
    }

    int matches(int net) {
        return matching(net).size();
    }

    int matchAt(int net, int index) {
        return pick(matching(net), index);
    }

    private static String leftOf(String bag, String word) {
        for (char letter : word.toCharArray()) {
            int at = bag.indexOf(letter);
            if (at < 0) {
                return null;
            }
            bag = bag.substring(0, at) + bag.substring(at + 1);
        }
        return bag;
    }

    int inBag(int net) {
        net(net);
        wordIsTyped();
        int found = 0;
        for (String word : words(net)) {
            found += leftOf(typed, word) != null ? 1 : 0;
        }
        return found;
    }

    int anagrams(int net) {
        net(net);
        wordIsTyped();
        int found = 0;
        for (String word : words(net)) {
            found += "".equals(leftOf(typed, word)) ? 1 : 0;
        }
        return found;
    }

    int addRule(int off) {
        inRange(off, 0, 4);
        demand(typed.matches("[a-h]{0,4}"), new UnsupportedOperationException());
        demand(rules.size() < 8, new IllegalStateException());
        rules.add(new Rule(off, typed));
        return rules.size() - 1;
    }

    private List<int[]> readingsOf(int net) {
        net(net);
        wordIsTyped();
        List<int[]> readings = new ArrayList<>();
        List<String> words = words(net);
        for (int number = 0; number < words.size(); number++) {
            String word = words.get(number);
            for (int rule = 0; rule < rules.size(); rule++) {
                int left = word.length() - rules.get(rule).off();
                if (left > 0 && (word.substring(0, left) + rules.get(rule).put()).equals(typed)) {
                    readings.add(new int[] {number, rule});
                }
            }
        }
        return readings;
    }

    int readings(int net) {
        return readingsOf(net).size();
    }

    int readingWord(int net, int index) {
        return pick(readingsOf(net), index)[0];
    }

    int readingRule(int net, int index) {
        return pick(readingsOf(net), index)[1];
    }

    private int ways(Set<String> words, String rest) {
        int ways = rest.isEmpty() ? 1 : 0;
        for (int i = 1; i <= rest.length(); i++) {
            if (words.contains(rest.substring(0, i))) {
                ways += ways(words, rest.substring(i));
            }
        }
        return ways;
    }

    int joins(int net) {
        net(net);
        wordIsTyped();
        return ways(net(net).keySet(), typed);
    }

    private void lookForSquares(List<String> words, int rows, List<String> above, List<List<String>> found) {
        for (int column = 0; !above.isEmpty() && column < rows; column++) {
            StringBuilder down = new StringBuilder();
            for (String row : above) {
                down.append(row.charAt(column));
            }
            boolean goesOn = false;
            for (String word : words) {
                goesOn = goesOn || word.length() == rows && word.startsWith(down.toString());
            }
            if (!goesOn) {
                return;
            }
        }
        if (above.size() == rows) {
            found.add(new ArrayList<>(above));
            return;
        }
        for (String word : words) {
            if (word.length() == rows && found.size() < 99) {
                above.add(word);
                lookForSquares(words, rows, above, found);
                above.remove(above.size() - 1);
            }
        }
    }

    private List<List<String>> squaresOf(int net, int rows) {
        net(net);
        inRange(rows, 2, 4);
        List<List<String>> found = new ArrayList<>();
        lookForSquares(words(net), rows, new ArrayList<>(), found);
        return found;
    }

    int squares(int net, int rows) {
        return squaresOf(net, rows).size();
    }

    int squareAt(int net, int rows, int index, int row) {
        return words(net).indexOf(pick(pick(squaresOf(net, rows), index), row));
    }

    int keep(int net) {
        net(net);
        demand(versions.size() < 8, new IllegalStateException());
        versions.add(new TreeMap<>(net(net)));
        return versions.size() - 1;
    }

    private TreeMap<String, Integer> version(int version) {
        demand(version >= 0 && version < versions.size(), new IndexOutOfBoundsException());
        return versions.get(version);
    }

    int lay(int version, int net) {
        TreeMap<String, Integer> from = version(version);
        int before = net(net).size();
        nets.set(net, new TreeMap<>(from));
        return before;
    }

    private static int missing(Map<String, Integer> of, Map<String, Integer> in) {
        Set<String> words = new HashSet<>(of.keySet());
        words.removeAll(in.keySet());
        return words.size();
    }

    int added(int version, int net) {
        Map<String, Integer> before = version(version);
        return missing(net(net), before);
    }

    int dropped(int version, int net) {
        Map<String, Integer> before = version(version);
        return missing(before, net(net));
    }

    private String row(int net) {
        TreeMap<String, TreeSet<String>> rests = rests(net);
        List<String> queue = new ArrayList<>();
        Set<TreeSet<String>> met = new HashSet<>();
        Set<Integer> starts = new HashSet<>();
        TreeMap<Integer, Character> row = new TreeMap<>();
        if (!rests.isEmpty()) {
            queue.add("");
            met.add(rests.get(""));
        }
        for (int turn = 0; turn < queue.size(); turn++) {
            String beginning = queue.get(turn);
            TreeSet<Character> letters = firsts(rests.get(beginning));
            int start = 0;
            while (starts.contains(start) || isTaken(row, start, letters)) {
                start++;
            }
            starts.add(start);
            for (char letter : letters) {
                row.put(start + letter - 'a', letter);
                TreeSet<String> next = rests.get(beginning + letter);
                if (!firsts(next).isEmpty() && met.add(next)) {
                    queue.add(beginning + letter);
                }
            }
        }
        StringBuilder text = new StringBuilder();
        for (int place = 0; !row.isEmpty() && place <= row.lastKey(); place++) {
            text.append(row.getOrDefault(place, '-'));
        }
        return text.toString();
    }

    private static boolean isTaken(Map<Integer, Character> row, int start, Set<Character> letters) {
        for (char letter : letters) {
            if (row.containsKey(start + letter - 'a')) {
                return true;
            }
        }
        return false;
    }

    int packed(int net) {
        net(net);
        return row(net).length();
    }

    char packedAt(int net, int place) {
        net(net);
        String row = row(net);
        demand(place >= 0 && place < row.length(), new NoSuchElementException());
        return row.charAt(place);
    }

    long checksum() {
        long sum = 7;
        for (Map<String, Integer> net : nets) {
            for (Map.Entry<String, Integer> word : net.entrySet()) {
                long value = 0;
                for (char letter : word.getKey().toCharArray()) {
                    value = value * 9 + letter - 'a' + 1;
                }
                sum = 31 * sum + value;
                sum = 31 * sum + word.getValue();
            }
        }
        return 31 * sum + typed.length();
    }

    float stateShare(int net) {
        demand(!net(net).isEmpty(), new ArithmeticException());
        return (float) states(net) / (float) beginnings(net);
    }

    double meanLength(int net) {
        demand(!net(net).isEmpty(), new ArithmeticException());
        double sum = 0;
        for (String word : words(net)) {
            sum += word.length();
        }
        return sum / net(net).size();
    }

    boolean isSound() {
        return true;
    }
}
