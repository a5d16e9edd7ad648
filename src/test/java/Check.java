import java.util.function.Consumer;
import java.util.function.Supplier;

/** Counts what the tests find; a test ends with done(). */
final class Check {
    private static int passed = 0;
    private static int failed = 0;
    private static String about = "";

    private Check() {
    }

    /** Says ahead of each answer that is wrong from here on what it is about. */
    static void about(String what) {
        about = what;
    }

    static int count() {
        return passed + failed;
    }

    static void is(String what, Object got, Object want) {
        if (got.equals(want)) {
            passed++;
            return;
        }
        failed++;
        System.out.println(about + what + " answered " + got + ", due is " + want);
    }

    /** The call throws just this exception, and the object goes on like one that never got the call. */
    static void refused(String what, Class<?> kind, Supplier<BadgeZones> house, Consumer<BadgeZones> call) {
        BadgeZones called = house.get();
        String got = "nothing thrown";
        try {
            call.accept(called);
        } catch (RuntimeException e) {
            got = e.getClass().getName();
            is("who throws at " + what, isThrownByTheProgram(e), true);
        }
        is(what, got, kind.getName());
        is("what stands after " + what, Picture.withFuture(called), Picture.withFuture(house.get()));
    }

    /** The program itself has to throw, not the machine or the library in it. */
    static boolean isThrownByTheProgram(Throwable e) {
        StackTraceElement[] trace = e.getStackTrace();
        return trace.length > 0 && trace[0].getClassName().split("\\$")[0].equals("BadgeZones");
    }

    static void outOfBounds(String what, Supplier<BadgeZones> house, Consumer<BadgeZones> call) {
        refused(what, IndexOutOfBoundsException.class, house, call);
    }

    static void badArgument(String what, Supplier<BadgeZones> house, Consumer<BadgeZones> call) {
        refused(what, IllegalArgumentException.class, house, call);
    }

    static void badState(String what, Supplier<BadgeZones> house, Consumer<BadgeZones> call) {
        refused(what, IllegalStateException.class, house, call);
    }

    static void done(String test) {
        System.out.println(test + ": " + passed + " checks held, " + failed + " did not");
        if (failed != 0) {
            System.exit(1);
        }
    }
}
