/** Promises 13 to 17: time, alarm, requests, what would be answered, the minute. */
public final class RequestTest {
    public static void main(String[] args) {
        tick();
        tickRefuses();
        alarm();
        answersInTheirOrder();
        answersToAHostInTheirOrder();
        passing();
        noRightForOutside();
        roomAndSetZone();
        excludingDoors();
        visitors();
        hostsStay();
        refusalsInARow();
        requestsInAlarm();
        visitorsInAlarm();
        requestRefuses();
        wouldBeChangesNothing();
        Check.done("RequestTest");
    }

    private static void asks(String why, BadgeZones x, int badge, int door, int due) {
        Check.is(why + ": wouldBe(" + badge + ", " + door + ")", x.wouldBe(badge, door), due);
        Check.is(why + ": request(" + badge + ", " + door + ")", x.request(badge, door), due);
    }

    private static void tick() {
        BadgeZones x = new BadgeZones();
        Check.is("tick(1)", x.tick(1), 1);
        Check.is("now", x.now(), 1);
        Check.is("tick(2000)", x.tick(2000), 2001);
        Check.is("now", x.now(), 2001);
        BadgeZones late = late();
        Check.is("up to the last minute", late.tick(1), 99999);
        Check.is("the last minute", late.now(), 99999);
    }

    /** Minute 99998. */
    private static BadgeZones late() {
        BadgeZones x = new BadgeZones();
        x.addZone(1, 0, 1440);
        for (int i = 0; i < 49; i++) {
            x.tick(2000);
        }
        x.tick(1998);
        return x;
    }

    private static void tickRefuses() {
        for (int minutes : new int[] {0, -1, 2001, Integer.MIN_VALUE, Integer.MAX_VALUE}) {
            Check.badArgument("tick(" + minutes + ")", Sample::houseByDay, x -> x.tick(minutes));
            Check.badArgument("tick(" + minutes + "), late", RequestTest::late, x -> x.tick(minutes));
        }
        Check.badState("tick(2), late", RequestTest::late, x -> x.tick(2));
        Check.badState("tick(2000), late", RequestTest::late, x -> x.tick(2000));
    }

    private static void alarm() {
        BadgeZones x = new BadgeZones();
        Check.is("none at first", x.alarm(true), false);
        Check.is("it goes on", x.alarm(true), true);
        x.tick(2000);
        Check.is("it ends", x.alarm(false), true);
        Check.is("it has ended", x.alarm(false), false);
    }

    /** Every reason is there at first; taken away in the order of the answers, each shows the next. */
    private static void answersInTheirOrder() {
        BadgeZones x = new BadgeZones();
        x.addZone(3, 0, 1440);
        x.addZone(1, 100, 200);
        x.addDoor(0, 1, 0, 0);
        x.addDoor(1, 2, 1, 1);
        x.addDoor(0, 2, 9, 1);
        x.addBadge(2);
        x.addBadge(4);
        x.addVisitor(0);
        x.request(0, 0);
        x.request(2, 0);
        x.alarm(true);
        x.request(0, 0);
        x.alarm(false);
        x.tick(100);
        x.request(1, 2);
        x.block(2, true);
        x.setZone(2, 1, 200, 300);
        asks("blocked", x, 2, 1, 8);
        x.block(2, false);
        asks("not at the door", x, 2, 2, 1);
        asks("no right", x, 2, 1, 2);
        x.setRights(0, 6);
        x.block(2, false);
        asks("not open", x, 2, 1, 3);
        x.setZone(2, 1, 100, 200);
        asks("full", x, 2, 1, 4);
        x.setZone(2, 2, 100, 200);
        x.block(2, false);
        asks("excluded", x, 2, 1, 5);
        x.tick(9);
        asks("without its host", x, 2, 1, 6);
        x.request(0, 0);
        asks("with its host", x, 2, 1, 0);
    }

    private static void answersToAHostInTheirOrder() {
        BadgeZones x = new BadgeZones();
        x.addZone(2, 0, 1440);
        x.addZone(1, 0, 1440);
        x.addDoor(0, 1, 0, 0);
        x.addDoor(1, 2, 0, 1);
        x.addDoor(0, 2, 9, 1);
        x.addBadge(6);
        x.addBadge(6);
        x.addVisitor(0);
        x.request(0, 0);
        x.request(2, 0);
        x.request(1, 2);
        asks("full", x, 0, 1, 4);
        x.setZone(2, 3, 0, 1440);
        asks("excluded", x, 0, 1, 5);
        x.block(0, false);
        x.tick(9);
        asks("would leave its visitor", x, 0, 1, 7);
        x.request(2, 1);
        asks("its visitor has gone", x, 0, 1, 0);
    }

    private static void passing() {
        BadgeZones x = Sample.house();
        asks("zone 1 is closed", x, 0, 0, 3);
        x.tick(480);
        asks("zone 1 is open", x, 0, 0, 0);
        Check.is("it is in the goal", x.badge(0, 0), 1);
        Check.is("no refusals any more", x.badge(0, 4), 0);
        Check.is("the door is open", x.openFor(0), 2);
        Check.is("the others are not", x.openFor(1), 0);
        x.tick(2);
        asks("back by the other side", x, 0, 0, 0);
        Check.is("it is outside", x.badge(0, 0), 0);
    }

    private static void noRightForOutside() {
        BadgeZones x = Sample.row(2);
        x.addBadge(6);
        x.request(0, 0);
        x.request(0, 1);
        x.setRights(0, 0);
        asks("a right is needed for zone 1", x, 0, 1, 2);
        x.setRights(0, 2);
        asks("only the goal's is needed", x, 0, 1, 0);
        x.setRights(0, 0);
        asks("none for zone 0", x, 0, 0, 0);
        x.setRights(0, 1);
        asks("zone 0's right is none for zone 1", x, 0, 0, 2);
    }

    private static void roomAndSetZone() {
        BadgeZones x = new BadgeZones();
        x.addZone(2, 0, 1440);
        x.addDoor(0, 1, 0, 0);
        for (int badge = 0; badge < 10; badge++) {
            x.addBadge(2);
        }
        asks("the first one", x, 0, 0, 0);
        asks("the second one", x, 1, 0, 0);
        asks("at its capacity", x, 2, 0, 4);
        x.setZone(1, 1, 0, 1440);
        asks("over its capacity", x, 2, 0, 4);
        x.setZone(1, 10, 0, 1440);
        for (int badge = 2; badge < 10; badge++) {
            asks("room for ten", x, badge, 0, 0);
        }
        for (int badge = 0; badge < 10; badge++) {
            asks("room for all outside", x, badge, 0, 0);
        }
    }

    private static void excludingDoors() {
        BadgeZones x = new BadgeZones();
        x.addZone(10, 0, 1440);
        int[][] holdAndLock = {{2, 1}, {1, 1}, {9, 2}, {9, 0}, {9, 0}, {0, 1}};
        for (int[] d : holdAndLock) {
            x.addDoor(0, 1, d[0], d[1]);
        }
        x.addBadge(2);
        asks("lock 1", x, 0, 0, 0);
        asks("lock 1 excludes lock 1", x, 0, 1, 5);
        asks("lock 2 does not matter", x, 0, 2, 0);
        asks("lock 0 does not matter", x, 0, 3, 0);
        asks("two doors with lock 0", x, 0, 4, 0);
        asks("a door does not exclude itself", x, 0, 0, 0);
        x.tick(1);
        asks("its last minute", x, 0, 1, 5);
        x.tick(1);
        asks("closed again", x, 0, 1, 0);
        asks("the other way round", x, 0, 0, 5);
        x.tick(1);
        asks("hold 0", x, 0, 5, 0);
        asks("hold 0 is never open", x, 0, 1, 0);
    }

    private static void visitors() {
        BadgeZones x = Sample.row(3);
        x.addBadge(14);
        x.addVisitor(0);
        asks("the host is in its zone", x, 1, 0, 0);
        asks("the host is neither here nor there", x, 1, 1, 6);
        asks("to zone 0 always", x, 1, 0, 0);
        asks("the host goes first", x, 0, 0, 0);
        asks("the host is in the goal", x, 1, 0, 0);
        asks("ahead of the host", x, 1, 1, 0);
        asks("the host follows", x, 0, 1, 0);
        asks("ahead again", x, 1, 2, 0);
        asks("back to the host", x, 1, 2, 0);
        x.setRights(0, 4);
        asks("the host's rights are its own", x, 1, 2, 2);
    }

    private static void hostsStay() {
        BadgeZones x = Sample.row(2);
        x.addBadge(6);
        x.addBadge(6);
        x.addVisitor(0);
        asks("from zone 0 always", x, 0, 0, 0);
        asks("the visitor follows", x, 2, 0, 0);
        asks("another follows", x, 1, 0, 0);
        asks("the host would leave it", x, 0, 1, 7);
        asks("also to zone 0", x, 0, 0, 7);
        asks("who is no host goes", x, 1, 1, 0);
        x.block(2, true);
        x.block(0, false);
        asks("a blocked visitor counts", x, 0, 1, 7);
        x.block(2, false);
        asks("the visitor goes ahead", x, 2, 1, 0);
        asks("the host follows", x, 0, 1, 0);
    }

    private static void refusalsInARow() {
        BadgeZones x = Sample.row(2);
        x.addBadge(2);
        asks("the first", x, 0, 1, 1);
        asks("the second", x, 0, 1, 1);
        asks("0 ends the row", x, 0, 0, 0);
        Check.is("none any more", x.badge(0, 4), 0);
        for (int refusal = 1; refusal <= 3; refusal++) {
            Check.is("not blocked yet", x.badge(0, 3), 0);
            asks("no right", x, 0, 1, 2);
            Check.is("in a row", x.badge(0, 4), refusal);
        }
        Check.is("blocked with its third one", x.badge(0, 3), 1);
        asks("blocked", x, 0, 0, 8);
        Check.is("8 counts for nothing", x.badge(0, 4), 3);
        x.tick(2000);
        asks("blocked for good", x, 0, 0, 8);
        x.block(0, false);
        asks("unblocked", x, 0, 0, 0);
    }

    private static void requestsInAlarm() {
        BadgeZones x = new BadgeZones();
        x.addZone(1, 0, 1440);
        x.addZone(3, 0, 1440);
        x.addZone(3, 0, 1440);
        x.addDoor(0, 1, 3, 1);
        x.addDoor(0, 2, 3, 1);
        x.addDoor(1, 2, 3, 0);
        x.addDoor(2, 3, 3, 0);
        x.addDoor(1, 3, 3, 0);
        for (int badge = 0; badge < 3; badge++) {
            x.addBadge(14);
        }
        x.request(0, 1);
        x.request(0, 3);
        x.tick(3);
        x.request(1, 0);
        x.alarm(true);
        x.setRights(0, 0);
        x.setZone(1, 1, 500, 501);
        asks("not inward", x, 2, 1, 9);
        asks("not to the same distance", x, 1, 2, 9);
        asks("not inward from zone 1", x, 1, 4, 9);
        x.block(1, false);
        asks("1 ahead of 9", x, 2, 3, 1);
        asks("rights, hours and room do not matter", x, 0, 4, 0);
        Check.is("both are there", x.inside(1), 3);
        asks("out", x, 0, 0, 0);
        Check.is("the door opens", x.openFor(0), 3);
        x.block(2, true);
        asks("8 ahead of all", x, 2, 1, 8);
        x.block(2, false);
        asks("9 counts", x, 2, 1, 9);
        Check.is("as a refusal", x.badge(2, 4), 1);
        x.alarm(false);
        asks("after the alarm", x, 2, 1, 5);
    }

    private static void visitorsInAlarm() {
        BadgeZones x = Sample.row(4);
        x.addDoor(1, 3, 0, 0);
        x.addBadge(30);
        x.addVisitor(0);
        for (int door = 0; door < 3; door++) {
            x.request(1, door);
            x.request(0, door);
        }
        x.alarm(true);
        asks("inward", x, 1, 3, 9);
        asks("the host may leave it", x, 0, 4, 0);
        asks("out, and the host is there", x, 1, 4, 0);
        x.alarm(false);
        x.request(1, 1);
        x.request(0, 1);
        x.alarm(true);
        asks("the host goes out", x, 0, 1, 0);
        asks("and on", x, 0, 0, 0);
        asks("9 ahead of 6", x, 1, 2, 9);
        asks("without its host", x, 1, 1, 6);
        x.alarm(false);
        x.request(0, 0);
        x.request(1, 1);
        x.alarm(true);
        asks("the host leaves", x, 0, 0, 0);
        asks("to zone 0 alone", x, 1, 0, 0);
    }

    private static void requestRefuses() {
        int[][] wrong = {{-1, 0}, {3, 0}, {10, 0}, {0, -1}, {0, 4}, {0, 12}, {3, 4},
            {Integer.MIN_VALUE, 0}, {0, Integer.MAX_VALUE}};
        for (int[] w : wrong) {
            Check.outOfBounds("request, wrong", Sample::houseByDay, x -> x.request(w[0], w[1]));
            Check.outOfBounds("wouldBe, wrong", Sample::houseByDay, x -> x.wouldBe(w[0], w[1]));
        }
    }

    private static void wouldBeChangesNothing() {
        BadgeZones x = Sample.houseByDay();
        for (int badge = 0; badge < 3; badge++) {
            for (int door = 0; door < 4; door++) {
                x.wouldBe(badge, door);
                x.wouldBe(badge, door);
            }
        }
        Check.is("after wouldBe", Picture.withFuture(x), Picture.withFuture(Sample.houseByDay()));
    }
}
