import java.util.Arrays;

/** A run beside the model: each call is made of both, and must answer, or throw, the same. */
final class Both extends Run {
    final Model model = new Model();
    private final String round;

    Both(String round) {
        this.round = round;
    }

    @Override
    int asks(Call call, String name, long... arguments) {
        Answer want = Answer.of(() -> call.on(model));
        Answer got = Answer.of(() -> super.asks(call, name, arguments));
        if (!got.text().equals(want.text())) {
            Kit.due(round + ", " + left() + " calls left, " + name + Arrays.toString(arguments), got.text(), want.text());
        }
        if (got.thrown != null) {
            throw got.thrown;
        }
        return got.value;
    }

    private interface Asked {
        int now();
    }

    private static final class Answer {
        private int value;
        private RuntimeException thrown;

        static Answer of(Asked asked) {
            Answer answer = new Answer();
            try {
                answer.value = asked.now();
            } catch (RuntimeException e) {
                answer.thrown = e;
            }
            return answer;
        }

        String text() {
            return thrown == null ? String.valueOf(value) : "throws " + thrown.getClass().getSimpleName();
        }
    }
}
