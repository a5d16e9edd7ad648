/** Houses that the tests begin with. */
final class Sample {
    private Sample() {
    }

    /** Zone 1 by day, zone 2 always, zone 3 by night; badges 0 and 1 of the staff, 2 the visitor of 0. */
    static BadgeZones house() {
        BadgeZones x = new BadgeZones();
        x.addZone(2, 480, 1080);
        x.addZone(1, 0, 1440);
        x.addZone(20, 1320, 360);
        x.addDoor(0, 1, 2, 1);
        x.addDoor(1, 2, 3, 1);
        x.addDoor(0, 2, 0, 2);
        x.addDoor(2, 3, 9, 0);
        x.addBadge(14);
        x.addBadge(4);
        x.addVisitor(0);
        return x;
    }

    /** The same by day, with badge 0 and its visitor in zone 1, badge 1 refused once, all doors closed. */
    static BadgeZones houseByDay() {
        BadgeZones x = house();
        x.tick(500);
        x.request(0, 0);
        x.request(2, 0);
        x.request(1, 0);
        x.tick(10);
        return x;
    }

    /** Eight zones, twelve doors and ten badges, the last two of them visitors'. */
    static BadgeZones full() {
        BadgeZones x = new BadgeZones();
        for (int zone = 1; zone < 8; zone++) {
            x.addZone(zone, 0, 1440);
            x.addDoor(zone - 1, zone, 1, 0);
        }
        for (int zone = 2; zone < 7; zone++) {
            x.addDoor(0, zone, zone, zone % 4);
        }
        for (int badge = 0; badge < 8; badge++) {
            x.addBadge(255);
        }
        x.addVisitor(0);
        x.addVisitor(7);
        return x;
    }

    /** A row of zones 0 - 1 - .. - last, always open, with room for ten, its doors with hold 0. */
    static BadgeZones row(int last) {
        BadgeZones x = new BadgeZones();
        for (int zone = 1; zone <= last; zone++) {
            x.addZone(10, 0, 1440);
            x.addDoor(zone - 1, zone, 0, 0);
        }
        return x;
    }

    /** Zones 0 and 1 with a door between them that is never open, and badges with the right for zone 1. */
    static BadgeZones hall(int capacity, int staff) {
        BadgeZones x = new BadgeZones();
        x.addZone(capacity, 0, 1440);
        x.addDoor(0, 1, 0, 0);
        for (int badge = 0; badge < staff; badge++) {
            x.addBadge(2);
        }
        return x;
    }

    /** Zones 0 and 1, and a badge with the right for zone 1. */
    static BadgeZones withoutDoors() {
        BadgeZones x = new BadgeZones();
        x.addZone(1, 0, 1440);
        x.addBadge(2);
        return x;
    }

    /** Lets minutes pass until it is that minute. */
    static BadgeZones at(int minute, BadgeZones x) {
        for (int left = minute - x.now(); left > 0; left -= 2000) {
            x.tick(Math.min(left, 2000));
        }
        return x;
    }

    /** Numbers of which none is 0 to count - 1, the nearest ones first. */
    static int[] beyond(int count) {
        return new int[] {-1, count, count + 1, Integer.MIN_VALUE, Integer.MAX_VALUE};
    }
}
