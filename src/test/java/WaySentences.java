/** Ways in the Description, and promises 23 to 26: a test for each sentence. */
final class WaySentences {
    private WaySentences() {
    }

    static void test() {
        ways();
        promise23();
        promise24();
        nextThrows();
        promise25();
        digestOfNumbers();
        digestOfParts();
    }

    /** What the document's checksum of these numbers is. */
    static long summed(long... numbers) {
        long d = 179;
        for (long x : numbers) {
            d = d * 31 + x;
        }
        return d;
    }

    private static void leads(String why, BadgeZones x, int badge, int zone, int way, int next) {
        Check.is(why + ": way", x.way(badge, zone), way);
        Check.is(why + ": next", x.next(badge, zone), next);
        Check.is(why + ": canCome", x.canCome(zone) >> badge & 1, way >= 0 ? 1 : 0);
    }

    private static void ways() {
        Document.description("A way of a badge leads from its zone through doors, in such a way that each zone that it enters "
            + "is zone 0, or is open now, and the badge has the right for it");
        BadgeZones x = Sample.row(3);
        x.addBadge(14);
        x.request(0, 0);
        leads("on", x, 0, 3, 2, 1);
        leads("back", x, 0, 0, 1, 0);
        x.setRights(0, 0);
        leads("without rights to zone 0", x, 0, 0, 1, 0);
        leads("without rights on", x, 0, 2, -1, -1);
        leads("without rights to where it is", x, 0, 1, 0, -1);
        x.setRights(0, 12);
        leads("without the right for its own zone", x, 0, 3, 2, 1);
        x.setRights(0, 10);
        leads("without the right for the one between", x, 0, 3, -1, -1);
        x.setRights(0, 6);
        leads("without the right for the last one", x, 0, 3, -1, -1);
        leads("to the one between", x, 0, 2, 1, 1);
        x.setRights(0, 14);
        x.setZone(1, 1, 1, 2);
        leads("its own zone is closed", x, 0, 3, 2, 1);
        x.setZone(2, 1, 1, 2);
        leads("the one between is closed", x, 0, 3, -1, -1);
        leads("round by zone 0, closed too", x, 0, 0, 1, 0);
        x.tick(1);
        leads("it is open", x, 0, 3, 2, 1);
        x.tick(1);
        leads("it is closed again", x, 0, 3, -1, -1);
        throughZoneZero();
        whatIsNoMatter();
    }

    private static void throughZoneZero() {
        BadgeZones x = new BadgeZones();
        x.addZone(1, 0, 1440);
        x.addZone(1, 0, 1440);
        x.addDoor(2, 0, 0, 0);
        x.addDoor(1, 0, 0, 0);
        x.addBadge(6);
        x.request(0, 1);
        x.setRights(0, 4);
        leads("through zone 0 without a right for it", x, 0, 2, 2, 1);
    }

    /** Room, locks, hosts, a badge that is blocked and an alarm are not in what a way is. */
    private static void whatIsNoMatter() {
        BadgeZones x = Sample.row(1);
        x.addDoor(0, 1, 9, 1);
        x.addDoor(0, 1, 9, 1);
        x.addBadge(2);
        x.addBadge(2);
        x.addVisitor(0);
        x.setZone(1, 1, 0, 1440);
        x.request(0, 1);
        leads("full", x, 1, 1, 1, 0);
        x.block(1, true);
        leads("blocked", x, 1, 1, 1, 0);
        x.alarm(true);
        leads("in an alarm", x, 1, 1, 1, 0);
        leads("a visitor's", x, 2, 1, 1, 0);
        BadgeZones y = new BadgeZones();
        y.addZone(5, 0, 1440);
        y.addDoor(0, 1, 9, 1);
        y.addDoor(0, 1, 9, 1);
        y.addBadge(2);
        y.addBadge(2);
        y.request(0, 1);
        leads("the door is excluded", y, 1, 1, 1, 0);
    }

    private static void promise23() {
        Document.promise(23, "Returns the least number of doors on a way of the badge to the zone");
        BadgeZones x = Sample.row(7);
        x.addBadge(255);
        for (int zone = 0; zone < 8; zone++) {
            Check.is("in a row", x.way(0, zone), zone);
        }
        x.addDoor(1, 6, 0, 0);
        Check.is("of two ways the one with less doors", x.way(0, 7), 3);
        Check.is("the other way round", x.way(0, 5), 3);
        Check.is("as many both ways", x.way(0, 4), 4);
        x.setRights(0, 255 - 64);
        Check.is("without the right for zone 6", x.way(0, 5), 5);
        x.setRights(0, 255);
        for (int door : new int[] {0, 7, 6}) {
            x.request(0, door);
        }
        int[] fromTheLast = {3, 2, 3, 4, 3, 2, 1, 0};
        for (int zone = 0; zone < 8; zone++) {
            Check.is("from zone 7", x.way(0, zone), fromTheLast[zone]);
        }
        Check.is("where it is, a new object", Sample.hall(1, 1).way(0, 0), 0);

        Document.promise(23, "-1 if there is none");
        Check.is("no doors", Sample.withoutDoors().way(0, 1), -1);
        Check.is("where it is, no doors", Sample.withoutDoors().way(0, 0), 0);
        BadgeZones y = Sample.row(2);
        y.addBadge(4);
        Check.is("no right on the way", y.way(0, 2), -1);

        Document.promise(23, "Throws `IndexOutOfBoundsException` if there is no such badge or zone");
        NoSuch.badge((z, badge) -> z.way(badge, 0));
        NoSuch.zone((z, zone) -> z.way(0, zone));
        NoSuch.badge((z, both) -> z.way(both, 8));
    }

    private static void promise24() {
        Document.promise(24, "Returns the first door of a way of the badge to the zone with the least number of doors, "
            + "of several such ways the smallest first door");
        BadgeZones x = new BadgeZones();
        for (int zone = 1; zone <= 4; zone++) {
            x.addZone(1, 0, 1440);
        }
        int[][] sides = {{2, 4}, {1, 4}, {3, 4}, {0, 3}, {2, 0}, {0, 1}, {1, 0}};
        for (int[] s : sides) {
            x.addDoor(s[0], s[1], 0, 0);
        }
        x.addBadge(30);
        Check.is("of three ways", x.next(0, 4), 3);
        Check.is("of two doors to the same zone", x.next(0, 1), 5);
        x.setRights(0, 30 - 8);
        Check.is("of two that are left", x.next(0, 4), 4);
        x.setRights(0, 30 - 8 - 4);
        Check.is("of two doors to the one that is left", x.next(0, 4), 5);
        x.addDoor(0, 4, 0, 0);
        Check.is("a way with less doors, though its first one is greater", x.next(0, 4), 7);
        x.request(0, 5);
        Check.is("on from zone 1", x.next(0, 4), 1);
        Check.is("back from zone 1", x.next(0, 0), 5);
        BadgeZones y = Sample.row(7);
        y.addBadge(255);
        for (int zone = 1; zone < 8; zone++) {
            Check.is("far off", y.next(0, zone), 0);
        }
        for (int door = 0; door < 6; door++) {
            y.request(0, door);
            Check.is("on from zone " + (door + 1), y.next(0, 7), door + 1);
            Check.is("back from zone " + (door + 1), y.next(0, 0), door);
        }

        Document.promise(24, "-1 if there is none, or it is there");
        Check.is("no doors", Sample.withoutDoors().next(0, 1), -1);
        Check.is("it is there, no doors", Sample.withoutDoors().next(0, 0), -1);
        Check.is("it is there", Sample.houseByDay().next(0, 1), -1);
        Check.is("no right", Sample.houseByDay().next(1, 1), -1);
        Check.is("not open", Sample.houseByDay().next(0, 3), -1);
    }

    private static void nextThrows() {
        Document.promise(24, "Throws `IndexOutOfBoundsException` if there is no such badge or zone");
        NoSuch.badge((z, badge) -> z.next(badge, 0));
        NoSuch.zone((z, zone) -> z.next(0, zone));
        NoSuch.badge((z, both) -> z.next(both, 8));
    }

    private static void promise25() {
        Document.promise(25, "Returns the set of the badges that have a way to it (also those that are there)");
        Check.is("no badges", new BadgeZones().canCome(0), 0);
        Check.is("no badges in a house", Sample.hall(1, 0).canCome(1), 0);
        Check.is("no doors, those that are there", Sample.withoutDoors().canCome(0), 1);
        Check.is("no doors, another zone", Sample.withoutDoors().canCome(1), 0);
        BadgeZones x = Sample.row(2);
        for (int badge = 0; badge < 10; badge++) {
            x.addBadge(badge % 2 == 0 ? 6 : 2);
        }
        Check.is("all to zone 0", x.canCome(0), 1023);
        Check.is("all to zone 1", x.canCome(1), 1023);
        Check.is("each second one to zone 2", x.canCome(2), 341);
        x.request(9, 0);
        x.setRights(9, 0);
        Check.is("one is there without a right", x.canCome(1), 1023);
        x.setZone(1, 1, 1, 2);
        Check.is("closed, and one is there", x.canCome(1), 512);
        Check.is("it can come out", x.canCome(0), 1023);
        Check.is("the others have no way through it", x.canCome(2), 0);

        Document.promise(25, "Throws `IndexOutOfBoundsException` if there is no such zone");
        NoSuch.zone((z, zone) -> z.canCome(zone));
    }

    private static void digestOfNumbers() {
        Document.promise(26, "Computes a checksum");
        BadgeZones x = Sample.houseByDay();
        long before = x.digest();
        Check.is("it changes nothing", x.digest(), before);
        x.request(1, 0);
        Check.is("one more refusal is another one", x.digest() == before, false);

        Document.promise(26, "A number d starts with 179");
        // 179 * 31^7 and the two ones for zone 0: their number, and that it is open.
        Check.is("a new object's", new BadgeZones().digest(), 179L * 27512614111L + 923521L + 29791L);

        Document.promise(26, "for each of the following numbers x, d becomes d * 31 + x, which wraps around as a 64-bit integer: "
            + "the minute");
        long power = 887503681L;
        BadgeZones y = new BadgeZones();
        long first = y.digest();
        y.tick(1);
        Check.is("a minute", y.digest() - first, power);
        Sample.at(99999, y);
        Check.is("the last minute", y.digest() - first, 99999L * power);
        BadgeZones z = new BadgeZones();
        for (int badge = 0; badge < 10; badge++) {
            z.addBadge(0);
        }
        long[] numbers = new long[57];
        numbers[2] = 1;
        numbers[3] = 1;
        numbers[4] = 1023;
        numbers[6] = 10;
        for (int badge = 0; badge < 10; badge++) {
            numbers[9 + 5 * badge] = -1;
        }
        Check.is("it wraps around", z.digest(), summed(numbers));

        Document.promise(26, "Returns d");
        Check.is("by day", Sample.houseByDay().digest(), summed(510, 0, 4, 1, 2, 1, 5, 1, 0, 0, 0, 4, 0, 0, 0, 0,
            3, 1, 14, -1, 0, 0, 0, 4, -1, 0, 1, 1, 14, 0, 0, 0));
    }

    private static void digestOfParts() {
        Document.promise(26, "1 if there is an alarm, else 0");
        BadgeZones x = new BadgeZones();
        x.alarm(true);
        Check.is("an alarm", x.digest(), summed(0, 1, 1, 1, 0, 0, 0));
        x.alarm(false);
        Check.is("none", x.digest(), summed(0, 0, 1, 1, 0, 0, 0));

        Document.promise(26, "the number of zones, and for each of them 1 if it is open, else 0, and the set of the badges in it");
        x.addZone(1, 0, 1);
        x.addZone(1, 1, 2);
        Check.is("two more", x.digest(), summed(0, 0, 3, 1, 0, 1, 0, 0, 0, 0, 0));
        x.tick(1);
        Check.is("a minute on", x.digest(), summed(1, 0, 3, 1, 0, 0, 0, 1, 0, 0, 0));
        BadgeZones y = Sample.hall(2, 2);
        y.request(1, 0);
        Check.is("badge 1 in zone 1", y.digest(), summed(0, 0, 2, 1, 1, 1, 2, 1, 0, 2, 0, 2, -1, 0, 0, 1, 2, -1, 0, 0));

        Document.promise(26, "the number of doors, and for how many minutes each is open yet");
        BadgeZones z = Sample.hall(2, 1);
        z.addDoor(0, 1, 9, 0);
        z.addDoor(0, 1, 2, 0);
        z.request(0, 1);
        z.request(0, 2);
        Check.is("three doors", z.digest(), summed(0, 0, 2, 1, 1, 1, 0, 3, 0, 9, 2, 1, 0, 2, -1, 0, 0));
        z.tick(2);
        Check.is("two minutes on", z.digest(), summed(2, 0, 2, 1, 1, 1, 0, 3, 0, 7, 0, 1, 0, 2, -1, 0, 0));

        Document.promise(26, "the number of badges, and for each of them what badge() tells, in its order");
        BadgeZones w = Sample.hall(2, 1);
        w.addVisitor(0);
        w.addBadge(255);
        w.request(1, 0);
        w.block(1, true);
        w.setRights(0, 4);
        w.request(0, 0);
        w.request(0, 0);
        Check.is("three badges", w.digest(), summed(0, 0, 2, 1, 5, 1, 2, 1, 0, 3,
            0, 4, -1, 0, 2, 1, 4, 0, 1, 0, 0, 255, -1, 0, 0));
        w.request(0, 0);
        Check.is("blocked by its third refusal", w.digest(), summed(0, 0, 2, 1, 5, 1, 2, 1, 0, 3,
            0, 4, -1, 1, 3, 1, 4, 0, 1, 0, 0, 255, -1, 0, 0));
    }
}
