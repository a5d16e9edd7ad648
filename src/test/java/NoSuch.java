import java.util.function.ObjIntConsumer;
import java.util.function.Supplier;

/** Calls with a number that no zone, no door or no badge has: where there are some, all that can be, and none to speak of. */
final class NoSuch {
    private NoSuch() {
    }

    static void zone(ObjIntConsumer<BadgeZones> call) {
        each("zone", 4, Sample::houseByDay, call);
        each("zone", 8, Sample::full, call);
        each("zone", 1, NoSuch::badgeAlone, call);
    }

    static void door(ObjIntConsumer<BadgeZones> call) {
        each("door", 4, Sample::houseByDay, call);
        each("door", 12, Sample::full, call);
        each("door", 0, Sample::withoutDoors, call);
    }

    static void badge(ObjIntConsumer<BadgeZones> call) {
        each("badge", 3, Sample::houseByDay, call);
        each("badge", 10, Sample::full, call);
        each("badge", 0, () -> Sample.hall(1, 0), call);
    }

    private static void each(String kind, int count, Supplier<BadgeZones> house, ObjIntConsumer<BadgeZones> call) {
        for (int number : Sample.beyond(count)) {
            Check.outOfBounds(kind + " " + number + " of " + count, house, x -> call.accept(x, number));
        }
    }

    private static BadgeZones badgeAlone() {
        BadgeZones x = new BadgeZones();
        x.addBadge(255);
        return x;
    }
}
