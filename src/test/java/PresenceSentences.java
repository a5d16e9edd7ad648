/** Promises 18 to 22: a test for each sentence. */
final class PresenceSentences {
    private PresenceSentences() {
    }

    static void test() {
        promise18();
        promise19();
        promise20();
        wasInThrows();
        promise21();
        minutesInThrows();
        promise22();
    }

    private static void promise18() {
        Document.promise(18, "Returns the set of the badges in it");
        Check.is("no badges", new BadgeZones().inside(0), 0);
        BadgeZones x = Sample.hall(20, 10);
        int in = 0;
        for (int badge : new int[] {9, 0, 5, 1, 2, 3, 4, 6, 7, 8}) {
            x.request(badge, 0);
            in += 1 << badge;
            Check.is("in zone 1", x.inside(1), in);
            Check.is("in zone 0", x.inside(0), 1023 - in);
        }
        x.block(3, true);
        x.setZone(1, 1, 1, 2);
        Check.is("blocked, closed, too small", x.inside(1), 1023);
        Check.is("the last zone", Sample.full().inside(7), 0);

        Document.promise(18, "Throws `IndexOutOfBoundsException` if there is no such zone");
        NoSuch.zone((y, zone) -> y.inside(zone));
    }

    private static void promise19() {
        Document.promise(19, "Returns the set of the visitors' badges that are neither in zone 0 nor in the zone of their hosts");
        Check.is("no badges", new BadgeZones().alone(), 0);
        BadgeZones x = Sample.hall(20, 1);
        for (int badge = 1; badge < 10; badge++) {
            x.addVisitor(0);
        }
        Check.is("all are in zone 0", x.alone(), 0);
        int alone = 0;
        for (int badge = 9; badge > 0; badge--) {
            x.request(badge, 0);
            alone += 1 << badge;
            Check.is("in zone 1, the host in zone 0", x.alone(), alone);
        }
        x.request(0, 0);
        Check.is("with the host", x.alone(), 0);
        x.request(4, 0);
        Check.is("in zone 0, the host in zone 1", x.alone(), 0);
        x.request(4, 0);
        x.alarm(true);
        x.request(0, 0);
        Check.is("the host left them in an alarm", x.alone(), 1022);
        BadgeZones y = Sample.hall(20, 2);
        y.request(0, 0);
        Check.is("the staff has no host", y.alone(), 0);
        y.addVisitor(0);
        y.addVisitor(1);
        Check.is("in zone 0, one host in zone 1", y.alone(), 0);
        y.request(3, 0);
        Check.is("with another one's host", y.alone(), 8);
        y.block(3, true);
        Check.is("blocked", y.alone(), 8);
        BadgeZones z = Sample.row(2);
        z.addBadge(6);
        z.addVisitor(0);
        z.request(0, 0);
        z.request(1, 0);
        z.request(1, 1);
        Check.is("in zone 2, the host in zone 1", z.alone(), 2);
        z.request(0, 1);
        z.request(1, 1);
        Check.is("in zone 1, the host in zone 2", z.alone(), 2);
    }

    private static void promise20() {
        Document.promise(20, "Returns the zone in which it was at the end of that minute (of this one: is now)");
        BadgeZones x = Sample.row(2);
        x.addBadge(6);
        x.tick(5);
        was("it has not moved", x, 0, 0, 0, 0, 0, 0);
        x.request(0, 0);
        was("moved in minute 5", x, 0, 0, 0, 0, 0, 1);
        x.request(0, 1);
        was("moved twice in minute 5", x, 0, 0, 0, 0, 0, 2);
        x.tick(1);
        was("minute 6", x, 0, 0, 0, 0, 0, 2, 2);
        x.request(0, 1);
        x.request(0, 1);
        was("back and forth in minute 6", x, 0, 0, 0, 0, 0, 2, 2);
        x.tick(2);
        x.request(0, 1);
        was("moved in minute 8", x, 0, 0, 0, 0, 0, 2, 2, 2, 1);
        x.request(0, 1);
        x.request(0, 1);
        x.request(0, 0);
        was("four moves in minute 8", x, 0, 0, 0, 0, 0, 2, 2, 2, 0);
        x.request(0, 1);
        x.setRights(0, 0);
        x.tick(1);
        was("a refusal moves nobody", x, 0, 0, 0, 0, 0, 2, 2, 2, 0, 0);
        BadgeZones y = Sample.hall(20, 1);
        y.request(0, 0);
        was("moved in minute 0", y, 1);
        Sample.at(99999, y);
        Check.is("the first minute", y.wasIn(0, 0), 1);
        Check.is("the last but one", y.wasIn(0, 99998), 1);
        Check.is("the last minute", y.wasIn(0, 99999), 1);
        y.request(0, 0);
        Check.is("now", y.wasIn(0, 99999), 0);
        Check.is("the minute before", y.wasIn(0, 99998), 1);
    }

    /** From minute 0 to now; minutes in each zone are these, but for now. */
    private static void was(String when, BadgeZones x, int... due) {
        Check.is(when + ": minutes", x.now() + 1, due.length);
        int[] minutes = new int[3];
        for (int minute = 0; minute < due.length; minute++) {
            Check.is(when + ": at minute " + minute, x.wasIn(0, minute), due[minute]);
            minutes[due[minute]] += minute < x.now() ? 1 : 0;
        }
        for (int zone = 0; zone < 2; zone++) {
            Check.is(when + ": minutes in zone " + zone, x.minutesIn(0, zone), minutes[zone]);
        }
    }

    private static void wasInThrows() {
        Document.promise(20, "Throws `IndexOutOfBoundsException` if there is no such badge");
        NoSuch.badge((x, badge) -> x.wasIn(badge, 0));
        NoSuch.badge((x, badge) -> x.wasIn(badge, -1));

        Document.promise(20, "Throws `IllegalArgumentException` if minute is not 0 to the minute that it is");
        for (int minute : Sample.beyond(511)) {
            Check.badArgument("minute " + minute, Sample::houseByDay, x -> x.wasIn(0, minute));
        }
        for (int minute : Sample.beyond(1)) {
            Check.badArgument("minute " + minute + " at minute 0", Sample::house, x -> x.wasIn(0, minute));
        }
        for (int minute : new int[] {-1, 100000}) {
            Check.badArgument("minute " + minute + " at the last", () -> Sample.at(99999, Sample.house()), x -> x.wasIn(0, minute));
        }
        Check.is("the least", Sample.houseByDay().wasIn(0, 0), 0);
        Check.is("the most", Sample.houseByDay().wasIn(0, 510), 1);
    }

    private static void promise21() {
        Document.promise(21, "Returns for how many minutes it has been in the zone: minutes at whose end it was there, "
            + "but for this minute");
        BadgeZones x = Sample.row(2);
        x.addBadge(6);
        minutes("at minute 0", x, 0, 0, 0);
        x.request(0, 0);
        minutes("moved in minute 0", x, 0, 0, 0);
        x.tick(1);
        minutes("minute 1", x, 0, 1, 0);
        x.request(0, 1);
        minutes("moved in minute 1", x, 0, 1, 0);
        x.tick(10);
        minutes("minute 11", x, 0, 1, 10);
        x.request(0, 1);
        x.request(0, 0);
        minutes("moved twice", x, 0, 1, 10);
        x.tick(100);
        minutes("zone 1 was left in the minute in which it was entered", x, 100, 1, 10);
        x.request(0, 0);
        x.tick(1000);
        minutes("in zone 1 for the second time", x, 100, 1001, 10);
        x.addBadge(6);
        Check.is("a new badge, zone 0", x.minutesIn(1, 0), 1111);
        Check.is("a new badge, zone 1", x.minutesIn(1, 1), 0);
        x.addZone(1, 0, 1440);
        Check.is("a new zone", x.minutesIn(0, 3), 0);
        Sample.at(99999, x);
        minutes("at the last minute", x, 100, 99889, 10);
        Check.is("the badge that never moved", x.minutesIn(1, 0), 99999);
        everyCallMoves();
    }

    private static void minutes(String when, BadgeZones x, int... due) {
        for (int zone = 0; zone < due.length; zone++) {
            Check.is(when + ": zone " + zone, x.minutesIn(0, zone), due[zone]);
        }
    }

    /** An object has 512 calls: 3 of them build, then each second one moves the badge in a minute of its own. */
    private static void everyCallMoves() {
        for (int seen = 0; seen < 4; seen++) {
            BadgeZones x = Sample.hall(1, 1);
            for (int move = 0; move < 254; move++) {
                x.tick(2);
                x.request(0, 0);
            }
            switch (seen) {
                case 0 -> Check.is("the 512th call, zone 0", x.minutesIn(0, 0), 254);
                case 1 -> Check.is("the 512th call, zone 1", x.minutesIn(0, 1), 254);
                case 2 -> Check.is("the 512th call, the first move", x.wasIn(0, 2), 1);
                default -> Check.is("the 512th call, the minute before it", x.wasIn(0, 1), 0);
            }
        }
        BadgeZones y = Sample.hall(1, 1);
        for (int move = 0; move < 505; move++) {
            y.request(0, 0);
        }
        Check.is("505 moves in a minute", y.wasIn(0, 0), 1);
        y.tick(1);
        Check.is("the minute after", y.minutesIn(0, 1), 1);
    }

    private static void minutesInThrows() {
        Document.promise(21, "Throws `IndexOutOfBoundsException` if there is no such badge or zone");
        NoSuch.badge((x, badge) -> x.minutesIn(badge, 0));
        NoSuch.zone((x, zone) -> x.minutesIn(0, zone));
        NoSuch.badge((x, both) -> x.minutesIn(both, 8));
        Check.is("the last badge and zone", Sample.full().minutesIn(9, 7), 0);
    }

    private static void promise22() {
        Document.promise(22, "Returns the number of badges that are not in zone 0, divided by the number of badges");
        for (int all = 1; all <= 10; all++) {
            BadgeZones x = Sample.hall(20, all);
            for (int in = 0; in <= all; in++) {
                Check.is(in + " of " + all, x.presence(), (double) in / all);
                x.request(Math.min(in, all - 1), 0);
            }
        }
        BadgeZones y = Sample.houseByDay();
        y.block(2, true);
        Check.is("two of three, one of them a visitor's and blocked", y.presence(), 2.0 / 3.0);

        Document.promise(22, "0 if there are none");
        Check.is("no badges", new BadgeZones().presence(), 0.0);
        Check.is("no badges in a house", Sample.hall(1, 0).presence(), 0.0);
    }
}
