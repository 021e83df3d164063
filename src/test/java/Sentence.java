import java.util.ArrayList;
import java.util.List;

/**
 * A sentence of the document that names a boundary, with calls that show it. Each line is a call on one new hall;
 * behind " = " stands what is due: a number, "ok" of a call that answers none, or a word for what is thrown: "index"
 * (IndexOutOfBoundsException), "argument" (IllegalArgumentException), "state" (IllegalStateException), "none"
 * (NoSuchElementException). A line without it is a call that must not throw, "99 x" before it makes 99 of them.
 */
final class Sentence {
    private final String words;
    private final TradeHall hall = new TradeHall();
    private final List<Call> made = new ArrayList<>();

    private Sentence(String words) {
        this.words = words;
    }

    static void holds(String words, String lines) {
        Sentence sentence = new Sentence(words);
        lines.lines().filter(line -> !line.isBlank()).forEach(sentence::read);
        Check.is(words + ": its calls go on beyond those of an object", 1,
            () -> sentence.made.size() <= Everything.MOST_CALLS ? 1 : 0);
    }

    private void read(String line) {
        String[] halves = line.split("=");
        String[] times = halves[0].split(" x ");
        Call call = Call.of(times[times.length - 1]);
        for (int n = times.length == 1 ? 1 : Integer.parseInt(times[0].trim()); n > 0; n--) {
            if (halves.length == 1) {
                goesThrough(call);
            } else {
                answers(call, halves[1].trim());
            }
            made.add(call);
        }
    }

    private void goesThrough(Call call) {
        Check.done(words + ": " + call, () -> call.answer(hall));
    }

    private void answers(Call call, String due) {
        Check.same(words + ": " + call, due, call.on(hall));
        if (Call.EXCEPTIONS.contains(due)) {
            changesNothing(call);
        }
    }

    private void changesNothing(Call refused) {
        List<Call> withIt = new ArrayList<>(made);
        withIt.add(refused);
        List<String> before = Everything.behind(made);
        List<String> behind = Everything.behind(withIt);
        Check.is(words + ": how much is told behind the refused " + refused, before.size(), behind::size);
        for (int i = 0; i < Math.min(before.size(), behind.size()); i++) {
            Check.same(words + ": behind the refused " + refused, before.get(i), behind.get(i));
        }
    }
}
