/** Houses that the tests begin with. */
final class Sample {
    private Sample() {
    }

    /** Zone 1 by day, zone 2 always, zone 3 by night; badges 0 and 1 of the staff, 2 the visitor of 0. */
    static BadgeZones house() {
        BadgeZones x = new BadgeZones();
        x.addZone(2, 480, 1080);
        x.addZone(1, 0, 1440);
        x.addZone(20, 1320, 360);
        x.addDoor(0, 1, 2, 1);
        x.addDoor(1, 2, 3, 1);
        x.addDoor(0, 2, 0, 2);
        x.addDoor(2, 3, 9, 0);
        x.addBadge(14);
        x.addBadge(4);
        x.addVisitor(0);
        return x;
    }

    /** The same by day, with badge 0 and its visitor in zone 1, badge 1 refused once, all doors closed. */
    static BadgeZones houseByDay() {
        BadgeZones x = house();
        x.tick(500);
        x.request(0, 0);
        x.request(2, 0);
        x.request(1, 0);
        x.tick(10);
        return x;
    }

    /** Eight zones, twelve doors and ten badges, the last two of them visitors'. */
    static BadgeZones full() {
        BadgeZones x = new BadgeZones();
        for (int zone = 1; zone < 8; zone++) {
            x.addZone(zone, 0, 1440);
            x.addDoor(zone - 1, zone, 1, 0);
        }
        for (int zone = 2; zone < 7; zone++) {
            x.addDoor(0, zone, zone, zone % 4);
        }
        for (int badge = 0; badge < 8; badge++) {
            x.addBadge(255);
        }
        x.addVisitor(0);
        x.addVisitor(7);
        return x;
    }

    /** A row of zones 0 - 1 - .. - last, always open, with room for ten, its doors with hold 0. */
    static BadgeZones row(int last) {
        BadgeZones x = new BadgeZones();
        for (int zone = 1; zone <= last; zone++) {
            x.addZone(10, 0, 1440);
            x.addDoor(zone - 1, zone, 0, 0);
        }
        return x;
    }
}
