import java.lang.reflect.InvocationTargetException;
import java.lang.reflect.Method;
import java.util.ArrayList;
import java.util.Comparator;
import java.util.List;
import java.util.function.IntUnaryOperator;
import java.util.function.Supplier;
import java.util.function.ToIntFunction;

/** Runs the tests of single sentences, each by itself, and tells of each that fails by its sentence. */
final class Edges {
    /** The classes whose methods are tests of single sentences. */
    static final List<Class<?>> CLASSES = List.of(MulesEdgesTest.class, GuestsEdgesTest.class, DayEdgesTest.class,
        BreadEdgesTest.class, CountEdgesTest.class, ChangesEdgesTest.class, TextsEdgesTest.class);

    private Edges() {
    }

    static List<Method> testsOf(Class<?> type) {
        List<Method> tests = new ArrayList<>();
        for (Method m : type.getDeclaredMethods()) {
            if (m.isAnnotationPresent(Edge.class)) {
                tests.add(m);
            }
        }
        tests.sort(Comparator.comparingInt((Method m) -> m.getAnnotation(Edge.class).promise())
            .thenComparing(Method::getName));
        return tests;
    }

    static void run(Class<?> type) {
        int broken = 0;
        for (Method test : testsOf(type)) {
            if (!holds(test)) {
                broken++;
                Edge edge = test.getAnnotation(Edge.class);
                System.out.println("BROKEN: promise " + edge.promise() + ", \"" + edge.says() + "\" ("
                    + type.getName() + "." + test.getName() + ")");
            }
        }
        System.out.println(type.getName() + ": " + testsOf(type).size() + " sentences, " + broken + " broken");
        Checks.finish(type);
    }

    /** A test that throws, or that checks nothing, has failed, too. */
    private static boolean holds(Method test) {
        int wrong = Checks.wrong();
        int made = Checks.made();
        try {
            test.invoke(null);
        } catch (InvocationTargetException e) {
            Checks.due(test.getName() + " threw " + e.getCause() + "; checks that it came to", 0, 1);
        } catch (IllegalAccessException e) {
            Checks.due(test.getName() + " cannot be called; checks that it came to", 0, 1);
        }
        if (Checks.made() == made) {
            Checks.due(test.getName() + ": checks made", 0, 1);
        }
        return Checks.wrong() == wrong;
    }

    /** Every value from low to high is taken, that is, not answered by an error. */
    static void taken(String call, IntUnaryOperator with, int low, int high) {
        for (int value = low; value <= high; value++) {
            int answer = with.applyAsInt(value);
            Checks.due(call + " of " + value + " is no error, but " + answer + ":", answer >= 0 ? 1 : 0, 1);
        }
    }

    /** Values next to the range, far from it, and such as a smaller number would wrap around into it. */
    static void outside(String call, IntUnaryOperator with, int low, int high) {
        long[] values = {low - 1L, high + 1L, -1, -low, -high, low - 256L, high - 256L, low + 256L, high + 256L,
            low - 65536L, low + 65536L, high + 65536L, low + (1L << 31), Integer.MIN_VALUE, Integer.MAX_VALUE};
        for (long value : values) {
            int argument = (int) value;
            if (argument < low || argument > high) {
                Checks.due(call + " of " + argument, with.applyAsInt(argument), Checks.INVALID);
            }
        }
    }

    /** The call answers with the error, and the hut, also after undo, tells all that one does without the call. */
    static void refused(String call, Supplier<HutLoaves> make, ToIntFunction<HutLoaves> made, int error) {
        HutLoaves hut = make.get();
        HutLoaves twin = make.get();
        Checks.due(call, made.applyAsInt(hut), error);
        Everything.same(call, hut, twin);
        Checks.due("undo() after " + call, hut.undo(), twin.undo());
        Everything.same("undo() after " + call, hut, twin);
    }

    /** A new hut on this day. */
    static HutLoaves onDay(int day) {
        HutLoaves hut = new HutLoaves();
        int left = day;
        while (left > 0) {
            int days = Math.min(60, left);
            hut.end(days);
            left -= days;
        }
        Checks.due("the day", hut.count(3), day);
        return hut;
    }

    static void place(HutLoaves hut, int mule, int place, int daysToGo) {
        Checks.due("muleOf(" + mule + ", 2)", hut.muleOf(mule, 2), place);
        Checks.due("muleOf(" + mule + ", 3)", hut.muleOf(mule, 3), daysToGo);
    }
}
