/** Promises 1 to 7: a new object, zones, doors, distances, hours, open doors. */
public final class HouseTest {
    public static void main(String[] args) {
        newObject();
        addZone();
        addZoneRefuses();
        setZone();
        setZoneRefuses();
        addDoor();
        addDoorRefuses();
        distance();
        isOpen();
        hoursOverMidnight();
        openFor();
        Check.done("HouseTest");
    }

    private static void newObject() {
        BadgeZones x = new BadgeZones();
        Check.is("new: now", x.now(), 0);
        Check.is("new: zone 0 is open", x.isOpen(0), true);
        Check.is("new: distance of zone 0", x.distance(0), 0);
        Check.is("new: nobody inside", x.inside(0), 0);
        Check.is("new: no alarm", x.alarm(false), false);
        Check.outOfBounds("new: isOpen(1)", BadgeZones::new, y -> y.isOpen(1));
        Check.outOfBounds("new: openFor(0)", BadgeZones::new, y -> y.openFor(0));
        Check.outOfBounds("new: badge(0, 0)", BadgeZones::new, y -> y.badge(0, 0));
        Check.is("new: first zone", x.addZone(1, 0, 1), 1);
        Check.is("new: first door", x.addDoor(0, 1, 0, 0), 0);
        Check.is("new: first badge", x.addBadge(0), 0);
        Check.is("objects do not share", new BadgeZones().addBadge(0), 0);
    }

    private static void addZone() {
        BadgeZones x = new BadgeZones();
        for (int zone = 1; zone < 8; zone++) {
            Check.is("addZone", x.addZone(20, 0, 1440), zone);
        }
        BadgeZones y = new BadgeZones();
        Check.is("least capacity and hours", y.addZone(1, 0, 1), 1);
        Check.is("most capacity and hours", y.addZone(20, 1439, 1440), 2);
        Check.is("end 0", y.addZone(1, 1439, 0), 3);
        Check.is("end before begin", y.addZone(1, 1000, 999), 4);
        Check.is("a zone is empty at first", y.inside(4), 0);
    }

    private static void addZoneRefuses() {
        int[][] wrong = {{0, 1, 2}, {-1, 1, 2}, {21, 1, 2}, {1, -1, 2}, {1, 1440, 2}, {1, 1, -1}, {1, 1, 1441},
            {1, 0, 0}, {1, 7, 7}, {1, 1440, 1440}, {Integer.MIN_VALUE, 1, 2}, {Integer.MAX_VALUE, 1, 2},
            {1, Integer.MIN_VALUE, 2}, {1, 1, Integer.MAX_VALUE}};
        for (int[] w : wrong) {
            Check.badArgument("addZone, wrong", Sample::houseByDay, x -> x.addZone(w[0], w[1], w[2]));
            Check.badArgument("addZone, wrong and full", Sample::full, x -> x.addZone(w[0], w[1], w[2]));
        }
        Check.badState("addZone, full", Sample::full, x -> x.addZone(1, 1, 2));
    }

    private static void setZone() {
        BadgeZones x = Sample.houseByDay();
        Check.is("two in zone 1", x.setZone(1, 1, 0, 1), 2);
        Check.is("they need not leave", x.inside(1), 5);
        Check.is("its hours are new", x.isOpen(1), false);
        x.setZone(1, 3, 510, 511);
        Check.is("its hours are new again", x.isOpen(1), true);
        x.setRights(1, 6);
        Check.is("room for a third", x.request(1, 0), 0);
        Check.is("three in zone 1", x.setZone(1, 3, 510, 511), 3);
        Check.is("nobody in zone 3", x.setZone(3, 20, 1439, 0), 0);
        x.setZone(2, 1, 600, 601);
        Check.is("the others stay as they are", x.isOpen(1), true);
    }

    private static void setZoneRefuses() {
        int[][] wrong = {{0, 1, 2}, {21, 1, 2}, {1, -1, 2}, {1, 1440, 2}, {1, 1, -1}, {1, 1, 1441}, {1, 0, 0}, {1, 9, 9}};
        for (int[] w : wrong) {
            Check.badArgument("setZone, wrong", Sample::houseByDay, x -> x.setZone(1, w[0], w[1], w[2]));
            Check.outOfBounds("setZone, zone 0 and wrong", Sample::houseByDay, x -> x.setZone(0, w[0], w[1], w[2]));
            Check.outOfBounds("setZone, no zone and wrong", Sample::houseByDay, x -> x.setZone(4, w[0], w[1], w[2]));
        }
        for (int zone : new int[] {-1, 0, 4, 8, Integer.MIN_VALUE, Integer.MAX_VALUE}) {
            Check.outOfBounds("setZone(" + zone + ")", Sample::houseByDay, x -> x.setZone(zone, 1, 1, 2));
        }
    }

    private static void addDoor() {
        BadgeZones x = new BadgeZones();
        x.addZone(1, 0, 1440);
        for (int door = 0; door < 12; door++) {
            Check.is("addDoor, the same sides too", x.addDoor(door % 2, 1 - door % 2, door % 10, door % 4), door);
            Check.is("a door is closed at first", x.openFor(door), 0);
        }
    }

    private static void addDoorRefuses() {
        int[][] noZone = {{-1, 0, 1, 1}, {0, -1, 1, 1}, {4, 0, 1, 1}, {0, 4, 1, 1}, {4, 4, 1, 1}, {0, 4, 10, 4},
            {Integer.MIN_VALUE, 0, 1, 1}, {0, Integer.MAX_VALUE, 1, 1}};
        for (int[] w : noZone) {
            Check.outOfBounds("addDoor, no zone", Sample::houseByDay, x -> x.addDoor(w[0], w[1], w[2], w[3]));
        }
        int[][] wrong = {{0, 0, 1, 1}, {3, 3, 1, 1}, {0, 1, -1, 1}, {0, 1, 10, 1}, {0, 1, 1, -1}, {0, 1, 1, 4},
            {0, 1, Integer.MAX_VALUE, 1}, {0, 1, 1, Integer.MIN_VALUE}};
        for (int[] w : wrong) {
            Check.badArgument("addDoor, wrong", Sample::houseByDay, x -> x.addDoor(w[0], w[1], w[2], w[3]));
            Check.badArgument("addDoor, wrong and full", Sample::full, x -> x.addDoor(w[0], w[1], w[2], w[3]));
        }
        Check.outOfBounds("addDoor, no zone and full", Sample::full, x -> x.addDoor(8, 0, 1, 1));
        Check.badState("addDoor, full", Sample::full, x -> x.addDoor(0, 1, 1, 1));
    }

    private static void distance() {
        BadgeZones x = Sample.row(7);
        for (int zone = 0; zone < 8; zone++) {
            Check.is("distance in a row", x.distance(zone), zone);
        }
        x.addDoor(7, 0, 0, 0);
        int[] ring = {0, 1, 2, 3, 4, 3, 2, 1};
        for (int zone = 0; zone < 8; zone++) {
            Check.is("distance in a ring", x.distance(zone), ring[zone]);
        }
        BadgeZones y = new BadgeZones();
        y.addZone(1, 100, 200);
        y.addZone(1, 100, 200);
        y.addDoor(1, 2, 0, 0);
        Check.is("no way to zone 0", y.distance(1), -1);
        Check.is("no way to zone 0", y.distance(2), -1);
        y.addDoor(2, 0, 0, 0);
        Check.is("hours do not matter for distances", y.distance(1), 2);
        for (int zone : new int[] {-1, 4, 8, Integer.MAX_VALUE}) {
            Check.outOfBounds("distance(" + zone + ")", Sample::houseByDay, z -> z.distance(zone));
        }
    }

    private static void isOpen() {
        BadgeZones x = new BadgeZones();
        x.addZone(1, 100, 101);
        x.addZone(1, 0, 1440);
        x.addZone(1, 99, 1440);
        x.tick(99);
        Check.is("ahead of the beginning", x.isOpen(1), false);
        x.tick(1);
        Check.is("at the beginning", x.isOpen(1), true);
        x.tick(1);
        Check.is("at the end", x.isOpen(1), false);
        x.tick(1338);
        Check.is("day's last minute, end 1440", x.isOpen(3), true);
        Check.is("day's last minute, all day", x.isOpen(2), true);
        x.tick(1);
        Check.is("the next day's first minute", x.isOpen(3), false);
        Check.is("the next day, all day", x.isOpen(2), true);
        x.tick(100);
        Check.is("the next day at the beginning", x.isOpen(1), true);
        Check.is("zone 0 always", x.isOpen(0), true);
        for (int zone : new int[] {-1, 4, 8, Integer.MIN_VALUE}) {
            Check.outOfBounds("isOpen(" + zone + ")", Sample::houseByDay, z -> z.isOpen(zone));
        }
    }

    private static void hoursOverMidnight() {
        BadgeZones x = new BadgeZones();
        x.addZone(1, 1400, 2);
        x.addZone(1, 1, 0);
        Check.is("ahead of the end", x.isOpen(1), true);
        Check.is("end 0 is ahead of nothing", x.isOpen(2), false);
        x.tick(1);
        Check.is("just ahead of the end", x.isOpen(1), true);
        Check.is("from the beginning on", x.isOpen(2), true);
        x.tick(1);
        Check.is("at the end", x.isOpen(1), false);
        x.tick(1397);
        Check.is("ahead of the beginning", x.isOpen(1), false);
        x.tick(1);
        Check.is("at the beginning", x.isOpen(1), true);
        x.tick(1);
        Check.is("after the beginning", x.isOpen(1), true);
        x.tick(38);
        Check.is("just ahead of midnight", x.isOpen(1), true);
        x.tick(1);
        Check.is("over midnight", x.isOpen(1), true);
        Check.is("end 0 at minute 1440", x.isOpen(2), false);
    }

    private static void openFor() {
        BadgeZones x = Sample.row(1);
        x.addDoor(0, 1, 9, 0);
        x.addDoor(0, 1, 1, 0);
        x.addBadge(2);
        x.tick(3);
        x.request(0, 0);
        Check.is("hold 0 is never open", x.openFor(0), 0);
        x.request(0, 1);
        Check.is("hold 9 at once", x.openFor(1), 9);
        x.request(0, 2);
        Check.is("hold 1 at once", x.openFor(2), 1);
        x.tick(1);
        Check.is("hold 9 a minute on", x.openFor(1), 8);
        Check.is("hold 1 a minute on", x.openFor(2), 0);
        x.tick(6);
        Check.is("hold 9, seven minutes on", x.openFor(1), 2);
        x.request(0, 1);
        Check.is("opened again", x.openFor(1), 9);
        x.tick(8);
        Check.is("its last minute", x.openFor(1), 1);
        x.tick(1);
        Check.is("closed", x.openFor(1), 0);
        x.tick(2000);
        Check.is("closed for long", x.openFor(1), 0);
        for (int door : new int[] {-1, 4, 12, Integer.MAX_VALUE}) {
            Check.outOfBounds("openFor(" + door + ")", Sample::houseByDay, z -> z.openFor(door));
        }
    }
}
