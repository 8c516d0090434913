import java.util.ArrayList;
import java.util.List;

/**
 * One run of calls on a new object. The model gets them too, so that a wrong answer in a test shows. Behind each call
 * that should change nothing, refused ones above all, everything that can be seen from outside is compared.
 */
final class Run {
    private static final int MOST_CALLS = 512;

    private final String what;
    private final Leastlex program = new Leastlex();
    private final Model model = new Model();
    /** The calls so far that may change something and were not refused. */
    private final List<Call> kept = new ArrayList<>();
    private int calls;
    private int wrong;

    Run(String what) {
        this.what = what;
    }

    /** How many answers were wrong when all lines had been run. */
    int end() {
        return wrong;
    }

    void line(String line) {
        String[] sides = line.split(" ->", 2);
        String due = sides.length == 2 ? sides[1].trim() : null;
        String asked = sides[0];
        int times = 1;
        if (asked.matches("\\d+ times .*")) {
            times = Integer.parseInt(asked.split(" ")[0]);
            asked = asked.replaceFirst("\\d+ times ", "");
        }
        for (int time = 0; time < times; time++) {
            once(asked, due);
        }
    }

    private void once(String asked, String due) {
        String[] parts = asked.split(" ");
        switch (parts[0]) {
            case "typed" -> typeAll(parts.length > 1 ? parts[1] : "");
            case "words" -> {
                for (int i = 2; i < parts.length; i++) {
                    typeAll(parts[i]);
                    call(new Call("add " + parts[1]), null);
                }
            }
            case "fill" -> fill(parts[1], Integer.parseInt(parts[2]));
            case "list" -> same(asked, due, list(program, parts[1]), list(model, parts[1]));
            case "each" -> each(asked.substring(5), due);
            default -> Call.all(asked).forEach(call -> call(call, due));
        }
    }

    private void typeAll(String signs) {
        call(new Call("wipe"), null);
        for (char sign : signs.toCharArray()) {
            call(new Call("type " + sign), null);
        }
    }

    private void fill(String net, int howMany) {
        for (String word : Check.threes(howMany)) {
            typeAll(word);
            call(new Call("add " + net), null);
        }
    }

    private void each(String asked, String due) {
        for (Call call : Call.all(asked)) {
            same("each " + call.text(), due, each(program, call), each(model, call));
        }
    }

    /** What a call answers for each index from 0 on, until there is none. */
    private String each(Object asked, Call call) {
        List<String> answers = new ArrayList<>();
        for (int index = 0; index < MOST_CALLS; index++) {
            String answer = ask(asked, new Call(call.text() + " " + index));
            if (answer.equals("NoSuchElementException")) {
                break;
            }
            answers.add(answer);
        }
        return String.join(" ", answers);
    }

    private String list(Object asked, String net) {
        List<String> words = new ArrayList<>();
        int size = Integer.parseInt(ask(asked, new Call("size " + net)));
        for (int number = 0; number < size; number++) {
            words.add(each(asked, new Call("letterOf " + net + " " + number)).replace(" ", ""));
        }
        return String.join(" ", words);
    }

    private String ask(Object asked, Call call) {
        if (asked == program) {
            calls++;
            if (calls > MOST_CALLS) {
                wrong(call.text() + " is call " + calls + ", of which nothing is promised");
            }
        }
        return call.on(asked);
    }

    private void call(Call call, String due) {
        String answer = ask(program, call);
        same(call.text(), due, answer, call.on(model));
        boolean isRefused = answer.endsWith("Exception");
        if (due == null && isRefused) {
            wrong(call.text() + " threw " + answer);
        }
        if (call.changes() && !isRefused) {
            kept.add(call);
        } else {
            changesNothing(call);
        }
    }

    private void changesNothing(Call call) {
        String changed = Sight.changedBy(call, kept);
        if (changed != null) {
            wrong(call.text() + " changed what is answered to " + changed);
        }
    }

    private void same(String asked, String due, String answer, String answerOfModel) {
        if (due != null && !due.equals(answer)) {
            wrong(asked + " answered " + answer + ", due is " + due);
        }
        if (!answer.equals(answerOfModel)) {
            wrong(asked + " answered " + answer + ", the model " + answerOfModel);
        }
    }

    private void wrong(String text) {
        wrong++;
        System.out.println(what + ": " + text);
    }
}
