import java.io.IOException;
import java.nio.file.Files;
import java.nio.file.Path;
import java.util.ArrayList;
import java.util.Arrays;
import java.util.List;
import java.util.function.Consumer;

/** What the Description says of all methods: a test for each sentence. */
final class ThrowSentences {
    private ThrowSentences() {
    }

    static void test() throws IOException {
        methodsFollow();
        changesNothing();
        namedFirst();
    }

    private static void methodsFollow() throws IOException {
        Document.description("The constructor and the methods follow, a promise each: the signature, then what it does");
        List<String> promised = new ArrayList<>();
        for (String line : Files.readAllLines(Path.of("../shared/DOC.md"))) {
            if (line.startsWith("## Promise ")) {
                promised.add(line.substring(line.indexOf(": ") + 2));
            }
        }
        Check.is("promises", promised.size(), 26);
        List<String> methods = new ArrayList<>(List.of("A new object"));
        for (java.lang.reflect.Method method : BadgeZones.class.getMethods()) {
            if (method.getDeclaringClass() == BadgeZones.class) {
                methods.add(method.getName());
            }
        }
        promised.sort(null);
        methods.sort(null);
        Check.is("methods", methods, promised);
    }

    private static void changesNothing() {
        Document.description("A method that throws an exception changes nothing");
        setZoneChangesNothing();
        addingChangesNothing();
        refusedCalls();
    }

    /** Whether each part of the zone is as it was is seen at the minutes round its hours, and by filling it. */
    private static void setZoneChangesNothing() {
        int[][] wrong = {{3, -1, 150}, {1, 150, 1441}, {3, 150, 150}, {0, 150, 160}, {21, 50, 300}, {1, 1440, 150}, {3, 150, -1}};
        for (int[] w : wrong) {
            BadgeZones x = Sample.hall(20, 3);
            x.setZone(1, 2, 100, 200);
            throwsBy(x, y -> y.setZone(1, w[0], w[1], w[2]));
            throwsBy(x, y -> y.setZone(0, w[0], w[1], w[2]));
            throwsBy(x, y -> y.setZone(2, 3, 150, 160));
            String when = "after setZone " + Arrays.toString(w) + " at minute ";
            for (int minute : new int[] {0, 99, 100, 149, 150, 160, 199, 200, 1439}) {
                boolean isOpen = minute >= 100 && minute < 200;
                Check.is(when + minute, Sample.at(minute, x).isOpen(1), isOpen);
            }
            Sample.at(1440 + 100, x);
            for (int badge = 0; badge < 3; badge++) {
                Check.is(when + "1540, badge " + badge, x.request(badge, 0), badge < 2 ? 0 : 4);
            }
        }
    }

    /** What is refused takes no number. */
    private static void addingChangesNothing() {
        BadgeZones x = new BadgeZones();
        throwsBy(x, y -> y.addZone(0, 0, 1));
        Check.is("a zone after a wrong one", x.addZone(1, 0, 1440), 1);
        throwsBy(x, y -> y.addDoor(0, 1, 10, 0));
        throwsBy(x, y -> y.addDoor(0, 2, 1, 0));
        Check.is("a door after wrong ones", x.addDoor(0, 1, 1, 0), 0);
        throwsBy(x, y -> y.addBadge(256));
        throwsBy(x, y -> y.addVisitor(0));
        Check.is("a badge after wrong ones", x.addBadge(2), 0);
        Check.is("its visitor", x.addVisitor(0), 1);
        throwsBy(x, y -> y.addVisitor(1));
        Check.is("a visitor after a wrong one", x.addVisitor(0), 2);
    }

    private static void refusedCalls() {
        BadgeZones x = Sample.houseByDay();
        long before = x.digest();
        List<Consumer<BadgeZones>> calls = List.of(y -> y.request(1, 4), y -> y.request(1, -1), y -> y.request(3, 0),
            y -> y.wouldBe(1, 4), y -> y.block(3, true), y -> y.setRights(0, 256), y -> y.setRights(2, 0), y -> y.tick(0),
            y -> y.tick(2001), y -> y.wasIn(0, 511), y -> y.badge(0, 5), y -> y.openFor(4), y -> y.canCome(4));
        for (Consumer<BadgeZones> call : calls) {
            throwsBy(x, call);
            Check.is("the digest after it", x.digest(), before);
        }
        Check.is("the refusals", x.badge(1, 4), 1);
        BadgeZones late = Sample.at(98000, Sample.house());
        throwsBy(late, y -> y.tick(2000));
        Check.is("the minute", late.now(), 98000);
        Check.is("a tick that fits", late.tick(1999), 99999);
        throwsBy(late, y -> y.tick(1));
        Check.is("the last minute", late.now(), 99999);
    }

    private static void throwsBy(BadgeZones x, Consumer<BadgeZones> call) {
        boolean isThrown = false;
        try {
            call.accept(x);
        } catch (IndexOutOfBoundsException | IllegalArgumentException | IllegalStateException e) {
            isThrown = true;
        }
        Check.is("an exception is thrown", isThrown, true);
    }

    private static void namedFirst() {
        Document.description("If several exceptions apply, the one that is named first is thrown");
        Check.badArgument("addZone: capacity, eight zones", Sample::full, x -> x.addZone(0, 0, 1));
        Check.badArgument("addZone: begin, eight zones", Sample::full, x -> x.addZone(1, 1440, 1));
        Check.badArgument("addZone: end, eight zones", Sample::full, x -> x.addZone(1, 0, 1441));
        Check.badArgument("addZone: the same, eight zones", Sample::full, x -> x.addZone(1, 7, 7));
        for (int zone : new int[] {-1, 0, 4}) {
            Check.outOfBounds("setZone: zone, capacity", Sample::houseByDay, x -> x.setZone(zone, 21, 0, 1));
            Check.outOfBounds("setZone: zone, begin", Sample::houseByDay, x -> x.setZone(zone, 1, -1, 1));
            Check.outOfBounds("setZone: zone, end", Sample::houseByDay, x -> x.setZone(zone, 1, 0, -1));
            Check.outOfBounds("setZone: zone, the same", Sample::houseByDay, x -> x.setZone(zone, 1, 0, 0));
        }
        doorsNamedFirst();
        badgesNamedFirst();
        Check.badArgument("tick: minutes, too late", () -> Sample.at(99999, Sample.house()), x -> x.tick(2001));
        Check.badArgument("tick: minutes, far too late", () -> Sample.at(99999, Sample.house()), x -> x.tick(Integer.MAX_VALUE));
        Check.outOfBounds("wasIn: badge, minute -1", Sample::houseByDay, x -> x.wasIn(3, -1));
        Check.outOfBounds("wasIn: badge, minute to come", Sample::houseByDay, x -> x.wasIn(-1, 511));
    }

    private static void doorsNamedFirst() {
        Check.outOfBounds("addDoor: a, the same", Sample::houseByDay, x -> x.addDoor(4, 4, 1, 1));
        Check.outOfBounds("addDoor: a, hold", Sample::houseByDay, x -> x.addDoor(-1, 1, 10, 1));
        Check.outOfBounds("addDoor: b, hold", Sample::houseByDay, x -> x.addDoor(0, 4, -1, 1));
        Check.outOfBounds("addDoor: b, lock", Sample::houseByDay, x -> x.addDoor(0, 4, 1, 4));
        Check.outOfBounds("addDoor: a, twelve doors", Sample::full, x -> x.addDoor(8, 0, 1, 1));
        Check.outOfBounds("addDoor: b, twelve doors", Sample::full, x -> x.addDoor(0, -1, 1, 1));
        Check.outOfBounds("addDoor: b, lock, twelve doors", Sample::full, x -> x.addDoor(0, 8, 1, -1));
        Check.badArgument("addDoor: the same, twelve doors", Sample::full, x -> x.addDoor(7, 7, 1, 1));
        Check.badArgument("addDoor: hold, twelve doors", Sample::full, x -> x.addDoor(0, 1, 10, 1));
        Check.badArgument("addDoor: lock, twelve doors", Sample::full, x -> x.addDoor(0, 1, 1, 4));
    }

    private static void badgesNamedFirst() {
        Check.badArgument("addBadge: rights -1, ten badges", Sample::full, x -> x.addBadge(-1));
        Check.badArgument("addBadge: rights 256, ten badges", Sample::full, x -> x.addBadge(256));
        Check.outOfBounds("addVisitor: host, ten badges", Sample::full, x -> x.addVisitor(10));
        Check.badArgument("addVisitor: a visitor's host, ten badges", Sample::full, x -> x.addVisitor(9));
        Check.outOfBounds("setRights: badge, rights -1", Sample::houseByDay, x -> x.setRights(3, -1));
        Check.outOfBounds("setRights: badge, rights 256", Sample::houseByDay, x -> x.setRights(-1, 256));
        Check.badArgument("setRights: rights -1, a visitor", Sample::houseByDay, x -> x.setRights(2, -1));
        Check.badArgument("setRights: rights 256, a visitor", Sample::houseByDay, x -> x.setRights(2, 256));
    }
}
