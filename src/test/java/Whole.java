import java.util.function.ToIntFunction;

/** Asks an object's twins for all that can be asked, and takes another twin when one has had its calls. */
final class Whole {
    private static final int MOST_NODES = 5;
    private static final int ANSWERS_OF_NODE = 6;
    private static final int ANSWERS_OF_PACKET = 4;
    private static final int ANSWERS_OF_THING = 3;

    private final Cast asked;
    private final StringBuilder text = new StringBuilder();
    private Cast twin;

    Whole(Cast asked) {
        this.asked = asked;
        this.twin = asked.twin();
    }

    String text() {
        int nodes = count(MOST_NODES, node -> x -> x.heard(node));
        for (int i = 0; i < nodes; i++) {
            int node = i;
            text.append("\nnode ").append(node).append(" told");
            count(ANSWERS_OF_NODE, what -> x -> x.told(node, what));
            text.append(" row");
            count(Cast.MOST_CALLS, k -> x -> x.at(node, k));
            for (int to = 0; to < nodes; to++) {
                line(node, to);
            }
        }
        text.append("\nthings");
        things();
        return text.toString();
    }

    private void line(int from, int to) {
        text.append(" line to ").append(to).append(' ').append(ask(x -> x.flying(from, to)));
        boolean more = true;
        for (int i = 0; more; i++) {
            int k = i;
            text.append(',');
            more = count(ANSWERS_OF_PACKET, what -> x -> x.packet(from, to, k, what)) > 0;
        }
    }

    private void things() {
        boolean more = true;
        for (int i = 0; more; i++) {
            int thing = i;
            text.append(',');
            more = count(ANSWERS_OF_THING, what -> x -> x.thing(thing, what)) > 0;
        }
    }

    private interface Question {
        ToIntFunction<Cast> of(int number);
    }

    /** Asks for numbers 0, 1, .. as long as there are answers. */
    private int count(int most, Question question) {
        int number = 0;
        String answer = number < most ? ask(question.of(number)) : "";
        while (number < most && !answer.endsWith("Exception")) {
            text.append(' ').append(answer);
            number++;
            answer = number < most ? ask(question.of(number)) : "";
        }
        return number;
    }

    private String ask(ToIntFunction<Cast> question) {
        if (twin.calls() == Cast.MOST_CALLS) {
            twin = asked.twin();
        }
        try {
            return Integer.toString(question.applyAsInt(twin));
        } catch (RuntimeException e) {
            return e.getClass().getSimpleName();
        }
    }
}
