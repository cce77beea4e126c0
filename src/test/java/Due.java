import java.util.function.Supplier;
import java.util.function.ToIntFunction;

/** Compares what calls answer or throw with what is due, and prints every difference. */
final class Due {
    /** A call of the class under test. */
    interface Call {
        int run();
    }

    private int compared = 0;
    private int wrong = 0;

    void answers(String told, int want, Call call) {
        same(told, Integer.toString(want), outcome(call));
    }

    /** The very class is compared: an exception that Java throws by itself is often a subclass. */
    void fails(String told, Class<? extends RuntimeException> want, Call call) {
        same(told, want.getName(), outcome(call));
    }

    void holds(String told, boolean what) {
        same(told, "true", Boolean.toString(what));
    }

    /** Asks for size() and every at(), and for the places just outside. */
    void elements(String told, Counted x, int v, int... want) {
        answers(told + ": size", want.length, () -> x.size(v));
        for (int i = 0; i < want.length; i++) {
            int place = i;
            answers(told + ": at " + place, want[place], () -> x.at(v, place));
        }
        fails(told + ": before the first", IndexOutOfBoundsException.class, () -> x.at(v, -1));
        fails(told + ": behind the last", IndexOutOfBoundsException.class, () -> x.at(v, want.length));
    }

    /** The call throws, and the object is then as one on which it was not made. */
    void refuses(String told, Class<? extends RuntimeException> want,
            Supplier<Counted> scene, ToIntFunction<Counted> call) {
        String before = scene.get().all();
        Counted x = scene.get();
        fails(told, want, () -> call.applyAsInt(x));
        same(told + ": changes nothing", before, x.all());
    }

    /** The call answers, and the object is then as one on which it was not made. */
    void asks(String told, int want, Supplier<Counted> scene, ToIntFunction<Counted> call) {
        String before = scene.get().all();
        Counted x = scene.get();
        answers(told, want, () -> call.applyAsInt(x));
        same(told + ": changes nothing", before, x.all());
    }

    /** The call makes one version, with the next number, and those before stay as they were. */
    void makes(String told, int kindAndForm, int[] elements,
            Supplier<Counted> scene, ToIntFunction<Counted> call) {
        Counted x = scene.get();
        int number = x.versions();
        String before = scene.get().firstOnes(number);
        answers(told, number, () -> call.applyAsInt(x));
        answers(told + ": versions", number + 1, x::versions);
        answers(told + ": kind", kindAndForm, () -> x.kind(number));
        elements(told, x, number, elements);
        same(told + ": the old ones stay", before, x.firstOnes(number));
    }

    void same(String told, String want, String got) {
        compared++;
        if (!want.equals(got)) {
            wrong++;
            System.out.println(told + ": " + got + ", due is " + want);
        }
    }

    static String outcome(Call call) {
        try {
            return Integer.toString(call.run());
        } catch (RuntimeException e) {
            return e.getClass().getName();
        }
    }

    void end() {
        System.out.println(compared + " compared, " + wrong + " wrong");
        if (wrong != 0) {
            System.exit(1);
        }
    }
}
