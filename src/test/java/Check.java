import java.util.function.Consumer;
import java.util.function.Supplier;

/** Counts what the tests find; a test ends with done(). */
final class Check {
    private static int passed = 0;
    private static int failed = 0;

    private Check() {
    }

    static void is(String what, Object got, Object want) {
        if (got.equals(want)) {
            passed++;
            return;
        }
        failed++;
        System.out.println(what + " answered " + got + ", due is " + want);
    }

    /** The call throws just this exception, and the object goes on like one that never got the call. */
    static void refused(String what, Class<?> kind, Supplier<BadgeZones> house, Consumer<BadgeZones> call) {
        BadgeZones called = house.get();
        String got = "nothing thrown";
        try {
            call.accept(called);
        } catch (RuntimeException e) {
            got = e.getClass().getName();
            is("who throws at " + what, thrower(e), "BadgeZones");
        }
        is(what, got, kind.getName());
        is("what stands after " + what, Picture.withFuture(called), Picture.withFuture(house.get()));
    }

    /** The program itself has to throw, not the machine or the library in it. */
    private static String thrower(RuntimeException e) {
        StackTraceElement[] trace = e.getStackTrace();
        return trace.length == 0 ? "unknown" : trace[0].getClassName();
    }

    static void outOfBounds(String what, Supplier<BadgeZones> house, Consumer<BadgeZones> call) {
        refused(what, IndexOutOfBoundsException.class, house, call);
    }

    static void badArgument(String what, Supplier<BadgeZones> house, Consumer<BadgeZones> call) {
        refused(what, IllegalArgumentException.class, house, call);
    }

    static void badState(String what, Supplier<BadgeZones> house, Consumer<BadgeZones> call) {
        refused(what, IllegalStateException.class, house, call);
    }

    static void done(String test) {
        System.out.println(test + ": " + passed + " checks held, " + failed + " did not");
        if (failed != 0) {
            System.exit(1);
        }
    }
}
