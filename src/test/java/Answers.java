import java.util.ArrayList;
import java.util.List;

/** Compares answers with those that are due, and ends the program with 1 if one was wrong. */
final class Answers {
    interface Call {
        long answer();
    }

    private final List<String> wrong = new ArrayList<>();
    private int asked = 0;

    void due(String what, Object want, Object got) {
        asked++;
        if (!want.equals(got)) {
            wrong.add(what + " answered " + got + ", due is " + want);
        }
    }

    void due(String what, long want, Call call) {
        due(what, (Object) Long.toString(want), of(call));
    }

    void thrown(String what, Class<? extends RuntimeException> want, Call call) {
        due(what, (Object) want.getSimpleName(), of(call));
    }

    /** The number that a call answers, or the name of what it throws. */
    static String of(Call call) {
        try {
            return Long.toString(call.answer());
        } catch (RuntimeException e) {
            return e.getClass().getSimpleName();
        }
    }

    int asked() {
        return asked;
    }

    boolean hasWrong() {
        return !wrong.isEmpty();
    }

    void end() {
        for (int i = 0; i < wrong.size() && i < 40; i++) {
            System.out.println(wrong.get(i));
        }
        System.out.println(asked + " answers, " + wrong.size() + " wrong");
        if (hasWrong()) {
            System.exit(1);
        }
    }
}
