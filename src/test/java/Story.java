import java.util.ArrayList;
import java.util.List;

/**
 * A works told by the calls that make it. It is made anew for each question, so that no question comes behind an
 * object's 512th call, where the document promises nothing, and one question does not spoil the next.
 */
final class Story {
    interface Step {
        Object on(Graphline x);
    }

    private final List<Step> steps;
    private String later = null;

    Story() {
        this(new ArrayList<>());
    }

    private Story(List<Step> steps) {
        this.steps = steps;
    }

    Story then(Step... more) {
        return times(1, more);
    }

    Story times(int times, Step... more) {
        List<Step> all = new ArrayList<>(steps);
        for (int i = 0; i < times; i++) {
            all.addAll(List.of(more));
        }
        return new Story(all);
    }

    Graphline told() {
        Graphline x = new Graphline();
        for (Step step : steps) {
            step.on(x);
        }
        return x;
    }

    /** What later calls show; kept, as many questions are asked of one story. */
    String later() {
        if (later == null) {
            later = Later.of(this);
        }
        return later;
    }
}
