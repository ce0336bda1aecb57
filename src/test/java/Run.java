import java.util.ArrayList;
import java.util.List;

/** Calls kept in a list, so that they can be made again on a new object, and be counted. */
final class Run {
    interface Step {
        long on(SignatureSpans x);
    }

    private final List<Step> steps = new ArrayList<>();

    /** Makes a file of so many bytes, as Check.file does. */
    static Run file(int size) {
        Run made = new Run();
        for (int i = 0; i < size; i++) {
            byte b = (byte) (i * 37);
            made.then(x -> x.add(b));
        }
        return made;
    }

    static Step tell(int signature, int i, long from, long to) {
        return x -> {
            x.tell(signature, i, from, to);
            return 0;
        };
    }

    Run then(Step... more) {
        steps.addAll(List.of(more));
        return this;
    }

    Run times(int count, Step step) {
        for (int i = 0; i < count; i++) {
            steps.add(step);
        }
        return this;
    }

    int calls() {
        return steps.size();
    }

    SignatureSpans made() {
        SignatureSpans x = new SignatureSpans();
        for (Step step : steps) {
            step.on(x);
        }
        return x;
    }
}
