/** What the tests share: comparing answers, counting wrong ones, and making objects with words. */
final class Check {
    interface Call {
        Object run();
    }

    private int done;
    private int wrong;

    void same(String what, Object want, Object got) {
        done++;
        if (!want.equals(got)) {
            wrong++;
            System.out.println(what + " answered " + got + ", due is " + want);
        }
    }

    void raises(String what, Class<? extends RuntimeException> want, Call call) {
        done++;
        String got;
        try {
            got = "answered " + call.run();
        } catch (RuntimeException e) {
            if (e.getClass() == want) {
                return;
            }
            got = "threw " + e.getClass().getSimpleName();
        }
        wrong++;
        System.out.println(what + " " + got + ", due is " + want.getSimpleName());
    }

    /** The call throws, and neither words, counts nor what is typed have changed then. */
    void refuses(String what, Leastlex x, Class<? extends RuntimeException> want, Call call) {
        long before = x.checksum();
        raises(what, want, call);
        same(what + ": checksum after it", before, x.checksum());
    }

    void end() {
        System.out.println(done + " checks, " + wrong + " wrong");
        if (wrong > 0) {
            System.exit(1);
        }
    }

    static Leastlex typed(Leastlex x, String signs) {
        x.wipe();
        for (int i = 0; i < signs.length(); i++) {
            x.type(signs.charAt(i));
        }
        return x;
    }

    static Leastlex adding(Leastlex x, int net, String... words) {
        for (String word : words) {
            typed(x, word).add(net);
        }
        x.wipe();
        return x;
    }

    /** A new object with words in net 0 and nothing typed. */
    static Leastlex with(String... words) {
        return adding(new Leastlex(), 0, words);
    }

    static String word(Leastlex x, int net, int number) {
        StringBuilder word = new StringBuilder();
        for (int i = 0; i < x.lengthOf(net, number); i++) {
            word.append(x.letterOf(net, number, i));
        }
        return word.toString();
    }

    static String words(Leastlex x, int net) {
        StringBuilder words = new StringBuilder();
        for (int number = 0; number < x.size(net); number++) {
            words.append(number == 0 ? "" : " ").append(word(x, net, number));
        }
        return words.toString();
    }

    static String row(Leastlex x, int net) {
        StringBuilder row = new StringBuilder();
        for (int place = 0; place < x.packed(net); place++) {
            row.append(x.packedAt(net, place));
        }
        return row.toString();
    }

    /** The first so many words of three letters, in the order of a dictionary. */
    static String[] threes(int howMany) {
        String[] words = new String[howMany];
        for (int i = 0; i < howMany; i++) {
            words[i] = "" + (char) ('a' + i / 64) + (char) ('a' + i / 8 % 8) + (char) ('a' + i % 8);
        }
        return words;
    }
}
