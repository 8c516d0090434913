import java.util.ArrayDeque;
import java.util.Deque;

/** All promises: long runs of calls, drawn from a fixed row of numbers, answer as the model does. */
public final class AgainstModelTest {
    private static final int RUNS = 3000;
    private static final int CALLS = 512;

    interface Ask {
        Object of(Leastlex x);
    }

    interface AskModel {
        Object of(Model m);
    }

    private long seed;
    private final Leastlex x = new Leastlex();
    private final Model m = new Model();
    private final Deque<String> last = new ArrayDeque<>();
    private final int letters;
    private final int longest;
    private final int mischief;
    private int calls;
    private int wrong;

    private AgainstModelTest(int run) {
        seed = run * 7919L + 1;
        letters = 1 + draw(8);
        longest = 1 + draw(8);
        mischief = draw(3) == 0 ? 4 : 40;
    }

    public static void main(String[] args) {
        int wrong = 0;
        for (int run = 0; run < RUNS && wrong == 0; run++) {
            AgainstModelTest test = new AgainstModelTest(run);
            if (run % 3 == 0) {
                test.addRules();
            }
            if (run % 5 == 0) {
                test.fill();
            } else if (run % 5 == 1) {
                test.fillWithAny();
            }
            while (test.calls < CALLS - 12 && test.wrong == 0) {
                test.step();
            }
            wrong += test.wrong;
            if (test.wrong > 0) {
                System.out.println("run " + run);
            }
        }
        System.out.println(RUNS + " runs, " + wrong + " wrong");
        if (wrong > 0) {
            System.exit(1);
        }
    }

    private int draw(int below) {
        seed = seed * 6364136223846793005L + 1442695040888963407L;
        return (int) ((seed >>> 33) % below);
    }

    private static String answer(Ask ask, Leastlex x) {
        try {
            return String.valueOf(ask.of(x));
        } catch (RuntimeException e) {
            return e.getClass().getName();
        }
    }

    private static String answer(AskModel ask, Model m) {
        try {
            return String.valueOf(ask.of(m));
        } catch (RuntimeException e) {
            return e.getClass().getName();
        }
    }

    private void same(String what, Ask ask, AskModel askModel) {
        calls++;
        String got = answer(ask, x);
        String due = answer(askModel, m);
        last.add(what + " -> " + got);
        if (last.size() > 40) {
            last.remove();
        }
        if (!got.equals(due)) {
            wrong++;
            System.out.println(String.join("\n", last) + "\ndue is " + due);
        }
    }

    /** Mostly a number from the range, at times one about its ends or far from it. */
    private int number(int below) {
        if (draw(mischief) > 0) {
            return draw(below);
        }
        int[] strange = {-1, below, below + 1, -2, Integer.MIN_VALUE, Integer.MAX_VALUE};
        return strange[draw(strange.length)];
    }

    private int net() {
        return draw(3) > 0 ? 0 : number(4);
    }

    private char letter() {
        return (char) ('a' + draw(letters));
    }

    private void typeSign(char sign) {
        same("type " + sign, x -> x.type(sign), m -> m.type(sign));
    }

    private void wipe() {
        same("wipe", x -> x.wipe(), m -> m.wipe());
    }

    private void add(int net) {
        same("add " + net, x -> x.add(net), m -> m.add(net));
    }

    private void typeWord() {
        wipe();
        int length = 1 + draw(longest);
        for (int i = 0; i < length; i++) {
            typeSign(letter());
        }
    }

    /** Many words by few calls: each is the one before with a letter behind or without some. */
    private void fill() {
        while (calls < 330 && m.size(0) < 50) {
            if (m.size(0) > 0 && draw(2) == 0) {
                same("back", x -> x.back(), m -> m.back());
            }
            typeSign(letter());
            add(0);
        }
    }

    /** As many words as there is time for, each typed anew, of all lengths that the run has. */
    private void fillWithAny() {
        while (calls < 400 && m.size(0) < 50) {
            typeWord();
            add(0);
        }
    }

    /** All rules that there may be, and one more. */
    private void addRules() {
        for (int rule = 0; rule <= 8; rule++) {
            wipe();
            for (int i = draw(3); i > 0; i--) {
                typeSign(letter());
            }
            int off = draw(3);
            same("addRule " + off, x -> x.addRule(off), m -> m.addRule(off));
        }
    }

    private void step() {
        int kind = draw(10);
        if (kind == 0) {
            typeWord();
        } else if (kind == 1) {
            typeWord();
            add(net());
        } else if (kind == 2) {
            typing();
        } else if (kind == 3) {
            wording();
        } else if (kind == 4) {
            stating();
        } else if (kind == 5) {
            pricing();
        } else if (kind == 6) {
            patterning();
        } else if (kind == 7) {
            squaring();
        } else if (kind == 8) {
            versioning();
        } else {
            figuring();
        }
    }

    private void typing() {
        char[] signs = {'?', '*', letter(), letter(), letter(), (char) ('a' + draw(10)), (char) draw(65536)};
        int kind = draw(8);
        if (kind == 0) {
            wipe();
        } else if (kind < 4) {
            same("back", x -> x.back(), m -> m.back());
        } else {
            typeSign(signs[draw(draw(mischief) == 0 ? 7 : 5)]);
        }
    }

    private void wording() {
        int net = net();
        int number = number(m.size(0) + 1);
        int count = 1 + number(draw(2) == 0 ? 3 : 999);
        switch (draw(6)) {
            case 0 -> add(net);
            case 1 -> same("drop " + net, x -> x.drop(net), m -> m.drop(net));
            case 2 -> same("has " + net, x -> x.has(net), m -> m.has(net));
            case 3 -> same("size " + net, x -> x.size(net), m -> m.size(net));
            case 4 -> same("setCount " + net + " " + count, x -> x.setCount(net, count), m -> m.setCount(net, count));
            default -> same("countOf " + net + " " + number, x -> x.countOf(net, number), m -> m.countOf(net, number));
        }
    }

    private void stating() {
        int net = net();
        int other = net();
        int number = number(m.size(0) + 1);
        int index = number(8);
        switch (draw(8)) {
            case 0 -> same("states " + net, x -> x.states(net), m -> m.states(net));
            case 1 -> same("edges " + net, x -> x.edges(net), m -> m.edges(net));
            case 2 -> same("beginnings " + net, x -> x.beginnings(net), m -> m.beginnings(net));
            case 3 -> same("shared " + net + " " + other, x -> x.shared(net, other), m -> m.shared(net, other));
            case 4 -> same("number " + net, x -> x.number(net), m -> m.number(net));
            case 5 -> same("lengthOf " + net + " " + number, x -> x.lengthOf(net, number), m -> m.lengthOf(net, number));
            case 6 -> same("letterOf " + net + " " + number + " " + index, x -> x.letterOf(net, number, index),
                    m -> m.letterOf(net, number, index));
            default -> same("beginning " + net, x -> x.beginning(net), m -> m.beginning(net));
        }
    }

    private void pricing() {
        int net = net();
        int gap = 1 + number(3);
        char one = (char) ('a' + number(8));
        char two = (char) ('a' + (draw(2) == 0 ? draw(letters) : number(8)));
        int price = number(6);
        int limit = number(10);
        int number = number(m.size(0) + 1);
        switch (draw(7)) {
            case 0 -> same("setGap " + gap, x -> x.setGap(gap), m -> m.setGap(gap));
            case 1, 2 -> same("setPrice " + one + " " + two + " " + price, x -> x.setPrice(one, two, price),
                    m -> m.setPrice(one, two, price));
            case 3 -> same("distance " + net + " " + number, x -> x.distance(net, number), m -> m.distance(net, number));
            case 4 -> same("near " + net + " " + limit, x -> x.near(net, limit), m -> m.near(net, limit));
            default -> same("nearAt " + net + " " + limit + " " + number, x -> x.nearAt(net, limit, number),
                    m -> m.nearAt(net, limit, number));
        }
    }

    private void patterning() {
        int net = net();
        int off = number(5);
        int index = number(draw(2) == 0 ? 3 : 20);
        switch (draw(9)) {
            case 0 -> same("matches " + net, x -> x.matches(net), m -> m.matches(net));
            case 1 -> same("matchAt " + net + " " + index, x -> x.matchAt(net, index), m -> m.matchAt(net, index));
            case 2 -> same("inBag " + net, x -> x.inBag(net), m -> m.inBag(net));
            case 3 -> same("anagrams " + net, x -> x.anagrams(net), m -> m.anagrams(net));
            case 4 -> same("addRule " + off, x -> x.addRule(off), m -> m.addRule(off));
            case 5 -> same("readings " + net, x -> x.readings(net), m -> m.readings(net));
            case 6 -> same("readingWord " + net + " " + index, x -> x.readingWord(net, index),
                    m -> m.readingWord(net, index));
            case 7 -> same("readingRule " + net + " " + index, x -> x.readingRule(net, index),
                    m -> m.readingRule(net, index));
            default -> same("joins " + net, x -> x.joins(net), m -> m.joins(net));
        }
    }

    private void squaring() {
        int net = net();
        int rows = 2 + number(3);
        int index = number(draw(3) == 0 ? 99 : 3);
        int row = number(draw(3) == 0 ? 4 : 2);
        if (draw(2) == 0) {
            same("squares " + net + " " + rows, x -> x.squares(net, rows), m -> m.squares(net, rows));
        } else {
            same("squareAt " + net + " " + rows + " " + index + " " + row, x -> x.squareAt(net, rows, index, row),
                    m -> m.squareAt(net, rows, index, row));
        }
    }

    private void versioning() {
        int net = net();
        int version = number(draw(3) == 0 ? 8 : 2);
        switch (draw(6)) {
            case 0 -> same("keep " + net, x -> x.keep(net), m -> m.keep(net));
            case 1 -> same("lay " + version + " " + net, x -> x.lay(version, net), m -> m.lay(version, net));
            case 2, 3 -> same("added " + version + " " + net, x -> x.added(version, net), m -> m.added(version, net));
            default -> same("dropped " + version + " " + net, x -> x.dropped(version, net),
                    m -> m.dropped(version, net));
        }
    }

    private void figuring() {
        int net = net();
        int place = number(draw(2) == 0 ? 10 : 60);
        switch (draw(7)) {
            case 0 -> same("packed " + net, x -> x.packed(net), m -> m.packed(net));
            case 1, 2 -> same("packedAt " + net + " " + place, x -> x.packedAt(net, place), m -> m.packedAt(net, place));
            case 3 -> same("checksum", x -> x.checksum(), m -> m.checksum());
            case 4 -> same("stateShare " + net, x -> x.stateShare(net), m -> m.stateShare(net));
            case 5 -> same("meanLength " + net, x -> x.meanLength(net), m -> m.meanLength(net));
            default -> same("isSound", x -> x.isSound(), m -> m.isSound());
        }
    }
}
