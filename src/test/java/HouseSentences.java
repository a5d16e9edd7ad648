/** Time, zones and doors in the Description, and promises 1 to 7: a test for each sentence. */
final class HouseSentences {
    private static final int[][] RIGHT_ZONES = {{1, 5, 6}, {20, 5, 6}, {5, 0, 6}, {5, 1439, 6}, {5, 6, 0}, {5, 6, 1440},
        {5, 0, 1440}, {5, 1439, 1440}, {5, 1439, 0}, {5, 0, 1}, {5, 1, 0}, {5, 1439, 1438}};
    private static final int[][] WRONG_ZONES = {{0, 5, 6}, {21, 5, 6}, {-1, 5, 6}, {Integer.MIN_VALUE, 5, 6},
        {Integer.MAX_VALUE, 5, 6}, {5, -1, 6}, {5, 1440, 6}, {5, 1440, 0}, {5, Integer.MIN_VALUE, 6}, {5, Integer.MAX_VALUE, 6},
        {5, 5, -1}, {5, 5, 1441}, {5, 5, Integer.MIN_VALUE}, {5, 5, Integer.MAX_VALUE},
        {5, 0, 0}, {5, 1, 1}, {5, 720, 720}, {5, 1439, 1439}, {5, 1440, 1440}, {5, -1, -1}};
    private static final int[][] WRONG_DOORS = {{0, 0, 1, 1}, {1, 1, 1, 1}, {0, 1, -1, 1}, {0, 1, 10, 1}, {0, 1, 1, -1},
        {0, 1, 1, 4}, {0, 1, Integer.MIN_VALUE, 1}, {0, 1, Integer.MAX_VALUE, 1}, {0, 1, 1, Integer.MIN_VALUE},
        {0, 1, 1, Integer.MAX_VALUE}, {1, 0, 10, 4}, {1, 1, -1, -1}};

    private HouseSentences() {
    }

    static void test() {
        time();
        zones();
        capacities();
        hours();
        sets();
        doors();
        holds();
        locks();
        promise1();
        promise2();
        promise3();
        setZoneThrows();
        promise4();
        addDoorThrows();
        distances();
        promise6();
        promise7();
    }

    private static boolean isOpenAt(int begin, int end, int minute) {
        BadgeZones x = new BadgeZones();
        x.addZone(1, begin, end);
        return Sample.at(minute, x).isOpen(1);
    }

    private static void opens(int begin, int end, int minute, boolean due) {
        Check.is("from " + begin + " to " + end + " at " + minute, isOpenAt(begin, end, minute), due);
    }

    private static void time() {
        Document.description("It is some minute, at first minute 0");
        BadgeZones x = new BadgeZones();
        Check.is("now", x.now(), 0);
        x.tick(1);
        Check.is("a minute later", x.now(), 1);

        Document.description("the minute of the day is the minute modulo 1440");
        for (int midnight : new int[] {1440, 2880, 99360}) {
            opens(0, 1, midnight - 1, false);
            opens(0, 1, midnight, true);
            opens(0, 1, midnight + 1, false);
            opens(1439, 1440, midnight - 1, true);
            opens(1439, 1440, midnight, false);
        }
        opens(639, 640, 99998, false);
        opens(639, 640, 99999, true);
        opens(638, 639, 99999, false);
    }

    private static void zones() {
        Document.description("There are at most 8, numbered from 0 in the order of their creation");
        BadgeZones x = new BadgeZones();
        for (int zone = 1; zone < 8; zone++) {
            Check.is("its number", x.addZone(1, zone, zone + 1), zone);
        }
        x.tick(7);
        Check.is("the last zone's hours", x.isOpen(7), true);
        Check.is("the hours of the one before", x.isOpen(6), false);
        Check.badState("one more", Sample::full, y -> y.addZone(1, 0, 1440));
        Check.outOfBounds("zone 8", Sample::full, y -> y.isOpen(8));

        Document.description("zone 0 is outside, it is there from the beginning on, always open, and has room for all");
        Check.is("in a new object", new BadgeZones().isOpen(0), true);
        for (int minute : new int[] {1, 1439, 1440, 99999}) {
            Check.is("open at " + minute, Sample.at(minute, new BadgeZones()).isOpen(0), true);
        }
        BadgeZones y = Sample.hall(20, 10);
        Check.is("all ten are there", y.inside(0), 1023);
        for (int badge = 0; badge < 10; badge++) {
            Check.is("one goes", y.request(badge, 0), 0);
            Check.is("and comes back to nine", y.request(badge, 0), 0);
        }
    }

    private static void capacities() {
        Document.description("Each other zone has a capacity, 1 to 20, and hours: a beginning and an end");
        for (int capacity : new int[] {1, 2, 9, 10, 11, 20}) {
            BadgeZones x = Sample.hall(capacity, 10);
            for (int badge = 0; badge < 10; badge++) {
                Check.is("badge " + badge + ", capacity " + capacity, x.request(badge, 0), badge < capacity ? 0 : 4);
            }
        }
        BadgeZones y = new BadgeZones();
        y.addZone(1, 0, 1);
        y.addZone(1, 1, 2);
        Check.is("each its own hours, zone 1", y.isOpen(1), true);
        Check.is("each its own hours, zone 2", y.isOpen(2), false);
    }

    private static void hours() {
        Document.description("it is open at the minutes of the day from the beginning on, ahead of the end");
        for (int day : new int[] {0, 1440}) {
            opens(100, 200, day + 99, false);
            opens(100, 200, day + 100, true);
            opens(100, 200, day + 199, true);
            opens(100, 200, day + 200, false);
            opens(700, 1440, day + 699, false);
            opens(700, 1440, day + 700, true);
            opens(700, 1440, day + 1439, true);
            opens(700, 1440, day + 1440, false);
            opens(1439, 1440, day + 1438, false);
            opens(0, 1, day, true);
            opens(0, 1, day + 1, false);
            opens(0, 1440, day, true);
            opens(0, 1440, day + 1439, true);
        }

        Document.description("if the end is less than the beginning, from the beginning on, and ahead of the end as well");
        for (int day : new int[] {0, 1440}) {
            opens(1400, 2, day, true);
            opens(1400, 2, day + 1, true);
            opens(1400, 2, day + 2, false);
            opens(1400, 2, day + 1399, false);
            opens(1400, 2, day + 1400, true);
            opens(1400, 2, day + 1439, true);
            opens(1439, 0, day, false);
            opens(1439, 0, day + 1438, false);
            opens(1439, 0, day + 1439, true);
            opens(1, 0, day, false);
            opens(1, 0, day + 1, true);
            opens(1439, 1438, day + 1437, true);
            opens(1439, 1438, day + 1438, false);
            opens(1439, 1438, day + 1439, true);
        }
    }

    private static void sets() {
        Document.description("Sets of zones and badges are told as the sum of the powers 2^k of their numbers k");
        BadgeZones y = new BadgeZones();
        for (int zone = 1; zone < 8; zone++) {
            y.addZone(20, 0, 1440);
            y.addDoor(0, zone, 0, 0);
        }
        for (int badge = 0; badge < 10; badge++) {
            y.addBadge(1 << badge % 8);
            for (int zone = 1; zone < 8; zone++) {
                Check.is("rights 2^" + badge % 8 + " for zone " + zone, y.wouldBe(badge, zone - 1), zone == badge % 8 ? 0 : 2);
            }
        }
        y.setRights(9, 128 + 2);
        Check.is("rights 2^7 + 2^1", y.request(9, 6), 0);
        Check.is("badge 9 in zone 7", y.inside(7), 512);
        y.request(7, 6);
        Check.is("badges 7 and 9 in zone 7", y.inside(7), 640);
        Check.is("the others", y.inside(0), 1023 - 640);
    }

    private static void doors() {
        Document.description("There are at most 12, numbered from 0 in the order of their creation");
        BadgeZones x = Sample.hall(20, 1);
        for (int door = 1; door < 12; door++) {
            Check.is("its number", x.addDoor(0, 1, door % 10, 0), door);
        }
        x.request(0, 11);
        x.request(0, 9);
        Check.is("the hold of the last one", x.openFor(11), 1);
        Check.is("the hold of the one before it but one", x.openFor(9), 9);
        Check.is("the one between", x.openFor(10), 0);
        Check.badState("one more", Sample::full, y -> y.addDoor(0, 1, 1, 1));
        Check.outOfBounds("door 12", Sample::full, y -> y.openFor(12));

        Document.description("A door connects two zones, its sides");
        BadgeZones z = Sample.row(7);
        z.addDoor(7, 2, 0, 0);
        z.addBadge(255);
        z.request(0, 0);
        z.request(0, 1);
        Check.is("from the one that is named last", z.request(0, 7), 0);
        Check.is("it is in zone 7", z.badge(0, 0), 7);
        Check.is("from the one that is named first", z.request(0, 7), 0);
        Check.is("it is in zone 2", z.badge(0, 0), 2);
        Check.is("a door of two others", z.request(0, 0), 1);
    }

    private static void holds() {
        Document.description("It has a hold, 0 to 9: if it is opened at some minute, it is open for so many minutes, "
            + "that one included (with a hold of 0 it is never open)");
        for (int hold = 0; hold <= 9; hold++) {
            for (int later = 0; later <= 10; later++) {
                BadgeZones x = Sample.hall(20, 1);
                x.addDoor(0, 1, hold, 0);
                x.tick(1435);
                x.request(0, 1);
                Sample.at(1435 + later, x);
                Check.is("hold " + hold + ", minutes later " + later, x.openFor(1), Math.max(0, hold - later));
            }
        }
        BadgeZones y = Sample.at(99999, Sample.hall(20, 1));
        y.addDoor(0, 1, 9, 0);
        y.request(0, 1);
        Check.is("opened at the last minute", y.openFor(1), 9);
        BadgeZones z = Sample.hall(20, 1);
        z.addDoor(0, 1, 9, 0);
        z.request(0, 1);
        z.tick(8);
        z.request(0, 1);
        Check.is("opened again at its last minute", z.openFor(1), 9);
        z.tick(9);
        Check.is("and closed", z.openFor(1), 0);
    }

    private static void locks() {
        Document.description("It has a lock, 0 to 3");
        for (int lock = 0; lock <= 3; lock++) {
            Check.is("lock " + lock, Sample.hall(1, 0).addDoor(0, 1, 0, lock), 1);
        }
        for (int lock : Sample.beyond(4)) {
            Check.badArgument("lock " + lock, Sample::houseByDay, x -> x.addDoor(0, 1, 0, lock));
        }

        Document.description("two doors with the same lock other than 0 exclude each other");
        for (int first = 0; first <= 3; first++) {
            for (int second = 0; second <= 3; second++) {
                exclude(first, second, 1, 2);
                exclude(first, second, 2, 1);
            }
        }
        for (int opened = 0; opened < 12; opened++) {
            BadgeZones x = twelveDoors();
            x.request(0, opened);
            for (int asked = 0; asked < 12; asked++) {
                int due = asked != opened && asked % 4 == opened % 4 && opened % 4 != 3 ? 5 : 0;
                Check.is("door " + asked + " of twelve while " + opened + " is open", x.wouldBe(1, asked), due);
            }
        }
    }

    /** Their locks are 1, 2, 3, 0, and again. */
    private static BadgeZones twelveDoors() {
        BadgeZones x = new BadgeZones();
        x.addZone(20, 0, 1440);
        for (int door = 0; door < 12; door++) {
            x.addDoor(0, 1, 1, (door + 1) % 4);
        }
        x.addBadge(2);
        x.addBadge(2);
        return x;
    }

    private static void exclude(int first, int second, int opened, int asked) {
        BadgeZones x = Sample.hall(20, 2);
        x.addDoor(0, 1, 2, first);
        x.addDoor(0, 1, 2, second);
        String when = "locks " + first + ", " + second + ", door " + asked + " while " + opened + " is open";
        int due = first == second && first != 0 ? 5 : 0;
        x.request(0, opened);
        Check.is(when, x.wouldBe(1, asked), due);
        Check.is("not itself, " + when, x.wouldBe(1, opened), 0);
        x.tick(1);
        Check.is("its last minute, " + when, x.wouldBe(1, asked), due);
        x.tick(1);
        Check.is("closed, " + when, x.wouldBe(1, asked), 0);
    }

    private static void promise1() {
        Document.promise(1, "Creates a control with zone 0 alone, without doors and badges, at minute 0");
        Check.is("zone 0", new BadgeZones().inside(0), 0);
        Check.outOfBounds("zone 1", BadgeZones::new, x -> x.inside(1));
        Check.outOfBounds("door 0", BadgeZones::new, x -> x.openFor(0));
        Check.outOfBounds("badge 0", BadgeZones::new, x -> x.badge(0, 0));
        Check.outOfBounds("no door and no badge", BadgeZones::new, x -> x.request(0, 0));
        Check.is("now", new BadgeZones().now(), 0);
        Sample.full().alarm(true);
        Check.is("objects have nothing in common", new BadgeZones().digest(), WaySentences.summed(0, 0, 1, 1, 0, 0, 0));

        Document.promise(1, "there is no alarm");
        Check.is("before it is begun", new BadgeZones().alarm(true), false);
        Check.is("before it is ended", new BadgeZones().alarm(false), false);
    }

    private static void promise2() {
        Document.promise(2, "Adds a zone");
        BadgeZones x = Sample.houseByDay();
        x.addZone(1, 511, 512);
        Check.is("not open yet", x.isOpen(4), false);
        Check.is("nobody is in it", x.inside(4), 0);
        Check.is("no door leads to it", x.distance(4), -1);
        x.tick(1);
        Check.is("open", x.isOpen(4), true);

        Document.promise(2, "Returns its number");
        BadgeZones y = new BadgeZones();
        for (int zone = 1; zone < 8; zone++) {
            int[] right = RIGHT_ZONES[zone];
            Check.is("number", y.addZone(right[0], right[1], right[2]), zone);
        }

        Document.promise(2, "Throws `IllegalArgumentException` if capacity is not 1 to 20, begin is not 0 to 1439, "
            + "end is not 0 to 1440, or they are the same");
        for (int[] w : WRONG_ZONES) {
            Check.badArgument("addZone" + textOf(w), BadgeZones::new, z -> z.addZone(w[0], w[1], w[2]));
        }
        for (int[] r : RIGHT_ZONES) {
            Check.is("addZone" + textOf(r), new BadgeZones().addZone(r[0], r[1], r[2]), 1);
        }

        Document.promise(2, "Throws `IllegalStateException` if there are 8 zones");
        for (int[] r : RIGHT_ZONES) {
            Check.badState("addZone" + textOf(r), Sample::full, z -> z.addZone(r[0], r[1], r[2]));
        }
    }

    private static String textOf(int[] numbers) {
        return java.util.Arrays.toString(numbers);
    }

    private static void promise3() {
        Document.promise(3, "Sets the capacity and the hours of a zone");
        for (int capacity : new int[] {1, 9, 20}) {
            BadgeZones x = Sample.hall(5, 10);
            x.setZone(1, capacity, 1439, 1);
            for (int badge = 0; badge < 10; badge++) {
                Check.is("badge " + badge + ", capacity " + capacity, x.request(badge, 0), badge < capacity ? 0 : 4);
            }
            Check.is("ahead of the end", x.isOpen(1), true);
            Check.is("at the end", Sample.at(1, x).isOpen(1), false);
            Check.is("ahead of the beginning", Sample.at(1438, x).isOpen(1), false);
            Check.is("at the beginning", Sample.at(1439, x).isOpen(1), true);
        }

        Document.promise(3, "nobody has to leave it");
        BadgeZones y = Sample.hall(20, 3);
        for (int badge = 0; badge < 3; badge++) {
            y.request(badge, 0);
        }
        y.setZone(1, 1, 1, 2);
        Check.is("three are in it, closed and too small", y.inside(1), 7);
        y.request(1, 0);
        Check.is("one goes by itself", y.inside(1), 5);

        Document.promise(3, "Returns how many badges are in it");
        BadgeZones z = Sample.hall(20, 10);
        for (int badge = 0; badge < 10; badge++) {
            Check.is("so many", z.setZone(1, 20, 0, 1440), badge);
            z.request(badge, 0);
        }
        Check.is("all", z.setZone(1, 1, 0, 1440), 10);
    }

    private static void setZoneThrows() {
        Document.promise(3, "Throws `IndexOutOfBoundsException` if there is no such zone, or it is zone 0");
        Check.outOfBounds("zone 0", Sample::houseByDay, x -> x.setZone(0, 5, 5, 6));
        Check.outOfBounds("zone 0 of one", BadgeZones::new, x -> x.setZone(0, 5, 5, 6));
        NoSuch.zone((x, zone) -> x.setZone(zone, 5, 5, 6));
        Check.is("the last one", Sample.full().setZone(7, 5, 5, 6), 0);

        Document.promise(3, "Throws `IllegalArgumentException` if capacity is not 1 to 20, begin is not 0 to 1439, "
            + "end is not 0 to 1440, or they are the same");
        for (int[] w : WRONG_ZONES) {
            Check.badArgument("setZone" + textOf(w), Sample::houseByDay, x -> x.setZone(1, w[0], w[1], w[2]));
        }
        for (int[] r : RIGHT_ZONES) {
            Check.is("setZone" + textOf(r), Sample.houseByDay().setZone(1, r[0], r[1], r[2]), 2);
        }
    }

    private static void promise4() {
        Document.promise(4, "Adds a door");
        BadgeZones x = Sample.row(2);
        x.addBadge(6);
        x.addDoor(2, 0, 9, 3);
        Check.is("closed at first", x.openFor(2), 0);
        Check.is("between its sides", x.request(0, 2), 0);
        Check.is("it is in zone 2", x.badge(0, 0), 2);
        Check.is("its hold", x.openFor(2), 9);
        x.addDoor(2, 0, 9, 3);
        Check.is("its lock", x.request(0, 3), 5);

        Document.promise(4, "Returns its number");
        BadgeZones y = new BadgeZones();
        y.addZone(1, 0, 1);
        for (int door = 0; door < 12; door++) {
            Check.is("the same sides too", y.addDoor(door % 2, 1 - door % 2, door % 10, door % 4), door);
        }
    }

    private static void addDoorThrows() {
        Document.promise(4, "Throws `IndexOutOfBoundsException` if there is no such zone");
        NoSuch.zone((x, a) -> x.addDoor(a, 0, 1, 1));
        NoSuch.zone((x, b) -> x.addDoor(0, b, 1, 1));
        NoSuch.zone((x, both) -> x.addDoor(both, both, 1, 1));
        Check.is("the first and the last zone", Sample.houseByDay().addDoor(0, 3, 1, 1), 4);
        Check.is("the last and the first zone", Sample.houseByDay().addDoor(3, 0, 1, 1), 4);

        Document.promise(4, "Throws `IllegalArgumentException` if a and b are the same, hold is not 0 to 9, "
            + "or lock is not 0 to 3");
        for (int[] w : WRONG_DOORS) {
            Check.badArgument("addDoor" + textOf(w), Sample::houseByDay, x -> x.addDoor(w[0], w[1], w[2], w[3]));
        }
        for (int hold = 0; hold <= 9; hold++) {
            Check.is("hold " + hold, Sample.houseByDay().addDoor(0, 1, hold, hold % 4), 4);
        }

        Document.promise(4, "Throws `IllegalStateException` if there are 12 doors");
        Check.badState("sides that have a door", Sample::full, x -> x.addDoor(0, 1, 0, 0));
        Check.badState("sides that have none", Sample::full, x -> x.addDoor(7, 3, 9, 3));
    }

    private static void distances() {
        Document.description("the distance of a zone is the least number of doors on a way from it to zone 0");
        BadgeZones x = Sample.row(7);
        Check.is("seven doors", x.distance(7), 7);
        x.addDoor(2, 6, 0, 0);
        Check.is("of two ways the one with less doors", x.distance(7), 4);
        x.addDoor(7, 0, 0, 0);
        Check.is("a door to zone 0", x.distance(7), 1);
        Check.is("round by zone 7", x.distance(5), 3);
        for (int zone = 1; zone < 8; zone++) {
            x.setZone(zone, 1, 700, 701);
        }
        x.alarm(true);
        Check.is("closed zones, and in an alarm", x.distance(5), 3);

        Document.promise(5, "Returns its distance");
        BadgeZones y = Sample.row(7);
        for (int zone = 0; zone < 8; zone++) {
            Check.is("in a row", y.distance(zone), zone);
        }

        Document.promise(5, "-1 if no way leads to zone 0");
        BadgeZones z = new BadgeZones();
        z.addZone(1, 0, 1440);
        z.addZone(1, 0, 1440);
        Check.is("no door", z.distance(1), -1);
        z.addDoor(1, 2, 0, 0);
        Check.is("no door to zone 0, from zone 1", z.distance(1), -1);
        Check.is("no door to zone 0, from zone 2", z.distance(2), -1);
        z.addDoor(0, 2, 0, 0);
        Check.is("a door to zone 0", z.distance(1), 2);
        Check.is("zone 0 without doors", new BadgeZones().distance(0), 0);

        Document.promise(5, "Throws `IndexOutOfBoundsException` if there is no such zone");
        NoSuch.zone((w, zone) -> w.distance(zone));
    }

    private static void promise6() {
        Document.promise(6, "Returns whether it is open now");
        BadgeZones x = Sample.house();
        Check.is("zone 1 at minute 0", x.isOpen(1), false);
        Check.is("zone 3 at minute 0", x.isOpen(3), true);
        Sample.at(480, x);
        Check.is("zone 1 at minute 480", x.isOpen(1), true);
        Check.is("zone 3 at minute 480", x.isOpen(3), false);
        x.alarm(true);
        Check.is("zone 1 in an alarm", x.isOpen(1), true);
        Check.is("zone 3 in an alarm", x.isOpen(3), false);

        Document.promise(6, "Throws `IndexOutOfBoundsException` if there is no such zone");
        NoSuch.zone((y, zone) -> y.isOpen(zone));
    }

    private static void promise7() {
        Document.promise(7, "Returns for how many minutes, this one included, it is open yet");
        BadgeZones x = Sample.hall(20, 1);
        x.addDoor(0, 1, 3, 0);
        x.request(0, 1);
        for (int left = 3; left > 0; left--) {
            Check.is("minutes", x.openFor(1), left);
            x.tick(1);
        }

        Document.promise(7, "0 if it is not open");
        Check.is("after its last minute", x.openFor(1), 0);
        x.tick(1);
        Check.is("a minute later", x.openFor(1), 0);
        x.tick(2000);
        Check.is("long after", x.openFor(1), 0);
        Check.is("never opened", Sample.houseByDay().openFor(3), 0);
        x.request(0, 0);
        Check.is("with a hold of 0", x.openFor(0), 0);

        Document.promise(7, "Throws `IndexOutOfBoundsException` if there is no such door");
        NoSuch.door((y, door) -> y.openFor(door));
    }
}
