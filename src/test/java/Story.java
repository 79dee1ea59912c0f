import java.util.ArrayList;
import java.util.List;

/** Calls that bring a new object into a state, again and again, so that many tests begin there. */
final class Story {
    /** An object is promised for so many calls. */
    static final int CALLS = 512;

    /** One call on an object. */
    interface Step {
        int on(SlabHouse x);
    }

    private final List<Step> steps = new ArrayList<>();

    Story then(Step step) {
        steps.add(step);
        return this;
    }

    Story times(int times, Step step) {
        for (int i = 0; i < times; i++) {
            steps.add(step);
        }
        return this;
    }

    Story freeAll(int processor, int... addresses) {
        for (int address : addresses) {
            steps.add(x -> x.free(address, processor));
        }
        return this;
    }

    int length() {
        return steps.size();
    }

    /** A new object to which all of it was told. */
    SlabHouse told() {
        SlabHouse x = new SlabHouse();
        for (Step step : steps) {
            step.on(x);
        }
        return x;
    }
}
