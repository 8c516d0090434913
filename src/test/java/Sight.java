import java.util.ArrayList;
import java.util.LinkedHashSet;
import java.util.List;
import java.util.Set;

/** All that can be seen of an object: what other calls answer, each lot of them on a new one that got the same calls. */
final class Sight {
    private static final int MOST_CALLS = 512;

    private Sight() {
    }

    /** Tells the first thing that a call changes behind some others, or null if there is none. */
    static String changedBy(Call last, List<Call> calls) {
        List<Call> more = new ArrayList<>(calls);
        more.add(last);
        for (List<Call> lot : lots(more)) {
            if (more.size() + lot.size() > MOST_CALLS) {
                throw new IllegalStateException("too many calls to look behind " + last);
            }
            List<String> before = seen(calls, lot);
            List<String> behind = seen(more, lot);
            for (int i = 0; i < lot.size(); i++) {
                if (!before.get(i).equals(behind.get(i))) {
                    return lot.get(i).text() + " from " + before.get(i) + " to " + behind.get(i);
                }
            }
        }
        return null;
    }

    private static List<String> seen(List<Call> calls, List<Call> lot) {
        Leastlex x = new Leastlex();
        calls.forEach(call -> call.on(x));
        return lot.stream().map(call -> call.on(x)).toList();
    }

    private static List<List<Call>> lots(List<Call> given) {
        List<List<Call>> lots = new ArrayList<>();
        lots.add(typedWordsAndCosts());
        lots.add(versionsAndRuleCount());
        // A rule shows by what it makes of words; only those that may have been added need to be looked for.
        Set<String> rules = new LinkedHashSet<>();
        Model model = new Model();
        for (Call call : given) {
            if (call.name().equals("addRule")) {
                for (String off : call.text().endsWith(" 0") ? new String[] {"0"} : new String[] {"1", "2", "3", "4"}) {
                    rules.add(off + model.typed().replaceAll("[^a-h]", ""));
                }
            }
            call.on(model);
        }
        for (String rule : rules) {
            lots.add(ruleOf(rule.charAt(0) - '0', rule.substring(1)));
        }
        return lots;
    }

    private static List<Call> typedWordsAndCosts() {
        List<Call> lot = new ArrayList<>(Call.all("checksum"));
        lot.addAll(Call.all("size 0|1|2|3"));
        lot.addAll(Call.all("setGap 1"));
        for (char one = 'a'; one <= 'h'; one++) {
            for (char two = 'a'; two < one; two++) {
                lot.add(new Call("setPrice " + one + " " + two + " 0"));
            }
        }
        for (int sign = 0; sign <= 10; sign++) {
            lot.add(new Call("back"));
        }
        return lot;
    }

    private static List<Call> versionsAndRuleCount() {
        List<Call> lot = new ArrayList<>();
        for (int version = 0; version < 8; version++) {
            lot.add(new Call("lay " + version + " 0"));
            lot.add(new Call("checksum"));
        }
        lot.addAll(Call.all("keep 0"));
        lot.addAll(Call.all("wipe"));
        lot.addAll(Call.all("addRule 0"));
        return lot;
    }

    private static List<Call> ruleOf(int off, String put) {
        List<Call> lot = new ArrayList<>();
        String word = "hgfed".substring(0, off == 0 ? 1 : 5);
        lot.addAll(typing(word));
        lot.addAll(Call.all("add 3"));
        lot.addAll(typing(word.substring(0, word.length() - off) + put));
        lot.addAll(Call.all("readings 3"));
        lot.addAll(Call.all("readingRule 3 0|1|2|3|4|5|6|7"));
        return lot;
    }

    private static List<Call> typing(String word) {
        List<Call> calls = new ArrayList<>(Call.all("wipe"));
        for (char sign : word.toCharArray()) {
            calls.add(new Call("type " + sign));
        }
        return calls;
    }
}
