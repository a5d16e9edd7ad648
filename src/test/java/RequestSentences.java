/** Requests in the Description, and promises 13 to 17: a test for each sentence. */
final class RequestSentences {
    private static final int ZONE = 0;
    private static final int BLOCKED = 3;
    private static final int REFUSALS = 4;

    private RequestSentences() {
    }

    static void test() {
        eachAnswer();
        sidesAndRights();
        openAndRoom();
        openDoors();
        hosts();
        visitorsThere();
        mayPass();
        order();
        alarm();
        refusals();
        thirdRefusal();
        noneAnyMore();
        promise13();
        promise14();
        promise15();
        promise16();
        promise17();
    }

    private static boolean isVisitors(int reason) {
        return reason == 6;
    }

    private static Reasons only(int reason) {
        return new Reasons(isVisitors(reason), reason == 9, reason == 0 ? 0 : 1 << reason);
    }

    private static void asks(String why, BadgeZones x, int badge, int door, int due) {
        Check.is(why + ", wouldBe", x.wouldBe(badge, door), due);
        Check.is(why + ", request", x.request(badge, door), due);
    }

    private static void eachAnswer() {
        Document.description("A badge asks at a door");
        for (int reason = 0; reason <= 9; reason++) {
            Check.is("only for reason " + reason, only(reason).ask(), reason);
        }

        Document.description("8 the badge is blocked");
        BadgeZones x = Sample.hall(20, 2);
        x.block(0, true);
        asks("blocked", x, 0, 0, 8);
        asks("another", x, 1, 0, 0);
        x.block(0, false);
        asks("unblocked", x, 0, 0, 0);
    }

    private static void sidesAndRights() {
        Document.description("1 its zone is none of the sides of the door (otherwise the other side is the goal)");
        BadgeZones x = Sample.row(2);
        x.addBadge(6);
        asks("none of the sides", x, 0, 1, 1);
        asks("the first side", x, 0, 0, 0);
        asks("the first side, on", x, 0, 1, 0);
        Check.is("the goal was the second one", x.badge(0, ZONE), 2);
        asks("none of the sides, from zone 2", x, 0, 0, 1);
        asks("the second side", x, 0, 1, 0);
        Check.is("the goal was the first one", x.badge(0, ZONE), 1);

        Document.description("2 it has no right for the goal");
        BadgeZones y = Sample.row(2);
        y.addBadge(2);
        y.addVisitor(0);
        y.request(0, 0);
        asks("the right for its zone, not for the goal", y, 0, 1, 2);
        y.setRights(0, 4);
        asks("no right for its zone, but for the goal", y, 0, 1, 0);
        asks("no right for zone 1", y, 0, 1, 2);
        asks("a visitor, without its host's right", y, 1, 0, 2);
    }

    private static void openAndRoom() {
        Document.description("3 the goal is not open");
        for (int minute = 98; minute <= 102; minute++) {
            BadgeZones x = Sample.hall(20, 1);
            x.setZone(1, 20, 99, 101);
            Sample.at(minute, x);
            boolean isOpen = minute == 99 || minute == 100;
            asks("from 99 to 101 at " + minute, x, 0, 0, isOpen ? 0 : 3);
        }
        BadgeZones y = Sample.hall(20, 1);
        y.request(0, 0);
        y.setZone(1, 20, 1, 2);
        asks("out of a zone that is not open", y, 0, 0, 0);

        Document.description("4 at least as many badges as its capacity are in the goal");
        BadgeZones z = Sample.hall(2, 4);
        asks("none of two", z, 0, 0, 0);
        asks("one of two", z, 1, 0, 0);
        asks("two of two", z, 2, 0, 4);
        z.setZone(1, 1, 0, 1440);
        asks("two of one", z, 2, 0, 4);
        z.block(0, true);
        asks("blocked ones count", z, 3, 0, 4);
        z.request(1, 0);
        asks("one of one", z, 3, 0, 4);
        z.block(0, false);
        z.request(0, 0);
        asks("none of one", z, 0, 0, 0);
        BadgeZones w = Sample.hall(1, 2);
        w.addVisitor(0);
        w.request(2, 0);
        asks("visitors count", w, 1, 0, 4);
    }

    private static void openDoors() {
        Document.description("5 a door that this one excludes is open");
        BadgeZones x = Sample.hall(20, 3);
        x.addDoor(0, 1, 2, 1);
        x.addDoor(0, 1, 0, 1);
        x.addDoor(0, 1, 9, 2);
        x.addDoor(0, 1, 9, 2);
        asks("all are closed", x, 0, 1, 0);
        asks("its other one is open", x, 1, 2, 5);
        asks("it is open itself", x, 1, 1, 0);
        asks("others with another lock", x, 2, 3, 0);
        x.tick(1);
        asks("the last minute at which the other one is open", x, 1, 2, 5);
        x.tick(1);
        asks("the minute after it", x, 1, 2, 0);
        asks("the other one has a hold of 0", x, 1, 1, 0);
    }

    private static void hosts() {
        Document.description("6 it is a visitor's, the goal is not zone 0, and the host is neither in the zone of the badge "
            + "nor in the goal");
        BadgeZones x = Sample.row(3);
        x.addBadge(14);
        x.addVisitor(0);
        x.addBadge(14);
        asks("the host is in its zone, zone 0", x, 1, 0, 0);
        asks("the host is in zone 0, neither here nor in the goal", x, 1, 1, 6);
        asks("one of the staff in its place", x, 2, 0, 0);
        asks("one of the staff has no host", x, 2, 1, 0);
        asks("the goal is zone 0, the host is there", x, 1, 0, 0);
        x.request(0, 0);
        asks("the host is in the goal", x, 1, 0, 0);
        asks("the host is in its zone", x, 1, 1, 0);
        asks("the host is a zone behind", x, 1, 2, 6);
        asks("back to the host", x, 1, 1, 0);
        BadgeZones y = Sample.row(2);
        y.addBadge(6);
        y.addVisitor(0);
        y.request(0, 0);
        y.request(0, 1);
        asks("the host is two zones ahead", y, 1, 0, 6);
        y.request(0, 1);
        y.block(0, true);
        asks("the host is one zone ahead, blocked", y, 1, 0, 0);
        y.block(0, false);
        y.request(1, 1);
        y.request(0, 1);
        asks("back from the host", y, 1, 1, 0);
        asks("the goal is zone 0, the host in zone 2", y, 1, 0, 0);
    }

    private static void visitorsThere() {
        Document.description("7 its zone is not zone 0, and a visitor's badge whose host it is is there");
        BadgeZones x = Sample.row(2);
        x.addBadge(6);
        x.addBadge(6);
        x.addVisitor(0);
        x.addVisitor(0);
        asks("from zone 0, both are there", x, 0, 0, 0);
        asks("from zone 1, none is there", x, 0, 0, 0);
        x.request(2, 0);
        x.request(3, 0);
        x.request(0, 0);
        x.request(1, 0);
        asks("two are there", x, 0, 1, 7);
        asks("one that is no host of them", x, 1, 1, 0);
        x.request(3, 1);
        asks("one is there", x, 0, 1, 7);
        x.block(0, false);
        asks("to zone 0 too", x, 0, 0, 7);
        x.block(0, false);
        x.block(2, true);
        asks("a blocked one is there", x, 0, 1, 7);
        x.block(2, false);
        x.request(2, 1);
        asks("none is there", x, 0, 1, 0);
        for (int there = 1; there < 10; there++) {
            BadgeZones y = Sample.hall(20, 1);
            for (int visitor = 1; visitor < 10; visitor++) {
                y.addVisitor(0);
            }
            y.request(0, 0);
            asks("none of nine is there", y, 0, 0, 0);
            y.request(there, 0);
            y.request(0, 0);
            asks("one of nine is there, badge " + there, y, 0, 0, 7);
        }
    }

    private static void mayPass() {
        Document.description("0 it may pass: it is in the goal then, and the door is opened");
        for (int of = 0; of < 2; of++) {
            Reasons r = new Reasons(of == 1, false, 0);
            Check.is("the answer", r.ask(), 0);
            Check.is("its zone", r.told(ZONE), 2);
            Check.is("the door", r.x.openFor(r.door), Reasons.HOLD);
        }
        for (int reason = 1; reason <= 9; reason++) {
            Reasons r = only(reason);
            r.ask();
            Check.is("its zone, for reason " + reason, r.told(ZONE), 1);
            Check.is("the door, for reason " + reason, r.x.openFor(r.door), 0);
        }
    }

    private static void order() {
        Document.description("The answer is the first one of these that is true");
        for (int reasons = 0; reasons < 1024; reasons += 2) {
            if ((reasons & 1 << 7) == 0) {
                askWith(new Reasons(true, false, reasons), Reasons.IN_ORDER, "a visitor's, reasons " + reasons);
            }
            if ((reasons & 1 << 6) == 0) {
                askWith(new Reasons(false, false, reasons), Reasons.IN_ORDER, "of the staff, reasons " + reasons);
            }
        }
    }

    private static void askWith(Reasons r, int[] inOrder, String when) {
        int due = r.first(inOrder);
        Check.is(when + ", wouldBe", r.x.wouldBe(r.badge, r.door), due);
        Check.is(when + ", request", r.ask(), due);
        Check.is(when + ", its zone", r.told(ZONE), due == 0 ? 2 : 1);
        Check.is(when + ", its refusals", r.told(REFUSALS), due == 0 || due == 8 ? 0 : 1);
        Check.is(when + ", the door", r.x.openFor(r.door), due == 0 ? Reasons.HOLD : 0);
    }

    private static void alarm() {
        Document.description("In an alarm, 2, 3, 4, 5 and 7 are not looked for, but this one, ahead of 6: "
            + "9 the goal is not nearer to zone 0 than the zone of the badge is");
        for (int reason : new int[] {2, 3, 4, 5, 7}) {
            Check.is("not looked for: " + reason, new Reasons(false, true, 1 << reason).ask(), 0);
        }
        for (int reason : new int[] {1, 6, 8, 9}) {
            Check.is("looked for: " + reason, new Reasons(isVisitors(reason), true, 1 << reason).ask(), reason);
        }
        for (int reasons = 0; reasons < 1024; reasons += 2) {
            if ((reasons & 1 << 7) == 0) {
                askWith(new Reasons(true, true, reasons), Reasons.IN_ORDER_IN_ALARM, "a visitor's, reasons " + reasons);
            }
            if ((reasons & 1 << 6) == 0) {
                askWith(new Reasons(false, true, reasons), Reasons.IN_ORDER_IN_ALARM, "of the staff, reasons " + reasons);
            }
        }
        nearerIsByDoors();
        Check.is("no 9 without an alarm", new Reasons(false, false, 1 << 9).ask(), 0);
    }

    /** A ring 0 - 1 - 2 - 3 - 0, and zone 4 behind zone 2: only the number of doors to zone 0 counts. */
    private static void nearerIsByDoors() {
        int[][] nearer = {{1, 0}, {2, 1}, {2, 3}, {3, 0}, {4, 2}};
        int[][] sides = {{0, 1}, {1, 2}, {2, 3}, {3, 0}, {2, 4}, {1, 3}};
        for (int door = 0; door < sides.length; door++) {
            for (int side = 0; side < 2; side++) {
                int from = sides[door][side];
                int to = sides[door][1 - side];
                boolean isNearer = false;
                for (int[] pair : nearer) {
                    isNearer |= pair[0] == from && pair[1] == to;
                }
                BadgeZones x = ring(sides, from);
                asks("in an alarm from " + from + " to " + to, x, 0, door, isNearer ? 0 : 9);
            }
        }
    }

    private static BadgeZones ring(int[][] sides, int zone) {
        BadgeZones x = new BadgeZones();
        for (int i = 1; i <= 4; i++) {
            x.addZone(20, 0, 1440);
        }
        for (int[] s : sides) {
            x.addDoor(s[0], s[1], 0, 0);
        }
        x.addBadge(30);
        for (int doors = x.way(0, zone); doors > 0; doors--) {
            x.request(0, x.next(0, zone));
        }
        // Closed zones are no farther, and a right is no nearer.
        for (int i = 1; i <= 4; i++) {
            x.setZone(i, 1, 1000, 1001);
        }
        x.setRights(0, 0);
        x.alarm(true);
        return x;
    }

    private static void refusals() {
        Document.description("With each answer but 0 and 8 the badge has one more refusal in a row");
        for (int reason : new int[] {1, 2, 3, 4, 5, 6, 7, 9}) {
            Reasons r = only(reason);
            for (int refusals = 1; refusals <= 3; refusals++) {
                Check.is("the answer", r.ask(), reason);
                Check.is("refusals for reason " + reason, r.told(REFUSALS), refusals);
            }
        }
        Reasons blocked = only(8);
        for (int i = 0; i < 4; i++) {
            Check.is("the answer", blocked.ask(), 8);
            Check.is("8 is no refusal", blocked.told(REFUSALS), 0);
        }
        BadgeZones x = Sample.row(2);
        x.addBadge(2);
        x.addBadge(2);
        x.request(0, 1);
        x.request(1, 1);
        x.request(0, 0);
        x.request(0, 1);
        Check.is("one after the row has ended", x.badge(0, REFUSALS), 1);
        Check.is("another badge has its own", x.badge(1, REFUSALS), 1);
    }

    private static void thirdRefusal() {
        Document.description("with its third one it is blocked");
        for (int reason : new int[] {1, 2, 3, 4, 5, 6, 7, 9}) {
            Reasons r = only(reason);
            for (int refusals = 1; refusals <= 2; refusals++) {
                r.ask();
                Check.is("not yet, reason " + reason, r.told(BLOCKED), 0);
            }
            Check.is("the third one is told as itself", r.ask(), reason);
            Check.is("blocked, reason " + reason, r.told(BLOCKED), 1);
            Check.is("8 from here on", r.ask(), 8);
            Check.is("three as before", r.told(REFUSALS), 3);
            r.x.tick(2000);
            r.x.alarm(true);
            r.x.alarm(false);
            Check.is("8 later too", r.ask(), 8);
            Check.is("three later too", r.told(REFUSALS), 3);
        }
        BadgeZones x = Sample.row(2);
        x.addBadge(2);
        x.addBadge(2);
        asks("of different reasons, 1", x, 0, 1, 1);
        x.request(0, 0);
        asks("0 has ended the row, 2", x, 0, 1, 2);
        x.request(1, 1);
        x.tick(2000);
        asks("minutes do not end it", x, 0, 1, 2);
        Check.is("two in a row, three in all", x.badge(0, BLOCKED), 0);
        x.wouldBe(0, 1);
        Check.is("what would be does not count", x.badge(0, BLOCKED), 0);
        x.alarm(true);
        asks("an alarm does not end it, 9", x, 0, 1, 9);
        Check.is("three in a row", x.badge(0, BLOCKED), 1);
        Check.is("another badge", x.badge(1, BLOCKED), 0);
    }

    private static void noneAnyMore() {
        Document.description("With the answer 0 it has none any more, and so it is when it is blocked or unblocked by a call, "
            + "also if it was so before");
        for (int refusals = 0; refusals < 3; refusals++) {
            BadgeZones x = refused(refusals);
            Check.is("the answer", x.request(0, 0), 0);
            Check.is("none after 0", x.badge(0, REFUSALS), 0);
        }
        for (int refusals = 0; refusals <= 3; refusals++) {
            for (int kind = 0; kind < 2; kind++) {
                BadgeZones x = refused(refusals);
                Check.is("was blocked", x.block(0, kind == 0), refusals == 3);
                Check.is("none after the call", x.badge(0, REFUSALS), 0);
                Check.is("blocked", x.badge(0, BLOCKED), kind == 0 ? 1 : 0);
                Check.is("the answer then", x.request(0, 1), kind == 0 ? 8 : 1);
                Check.is("refusals then", x.badge(0, REFUSALS), kind == 0 ? 0 : 1);
                Check.is("blocked then", x.badge(0, BLOCKED), kind == 0 ? 1 : 0);
            }
        }
        BadgeZones y = refused(2);
        y.block(0, false);
        y.request(0, 1);
        y.request(0, 1);
        Check.is("two more are not the third", y.badge(0, BLOCKED), 0);
        y.request(0, 1);
        Check.is("three more are", y.badge(0, BLOCKED), 1);
    }

    private static BadgeZones refused(int times) {
        BadgeZones x = Sample.row(2);
        x.addBadge(6);
        for (int i = 0; i < times; i++) {
            x.request(0, 1);
        }
        return x;
    }

    private static void promise13() {
        Document.promise(13, "Lets minutes pass");
        BadgeZones x = Sample.hall(20, 1);
        x.addDoor(0, 1, 9, 0);
        x.request(0, 1);
        x.tick(8);
        Check.is("a door is open yet", x.openFor(1), 1);
        x.tick(1);
        Check.is("now", x.now(), 9);
        Check.is("the door is closed", x.openFor(1), 0);
        Check.is("minutes inside", x.minutesIn(0, 1), 9);
        Check.is("nobody moves", x.badge(0, ZONE), 1);

        Document.promise(13, "Returns the minute that it is then");
        BadgeZones y = new BadgeZones();
        Check.is("the least", y.tick(1), 1);
        Check.is("the most", y.tick(2000), 2001);
        Check.is("and on", y.tick(1999), 4000);

        Document.promise(13, "Throws `IllegalArgumentException` if minutes is not 1 to 2000");
        for (int minutes : new int[] {0, -1, 2001, 2002, Integer.MIN_VALUE, Integer.MAX_VALUE}) {
            Check.badArgument("minutes " + minutes, Sample::houseByDay, z -> z.tick(minutes));
            Check.badArgument("at the last minute", () -> Sample.at(99999, Sample.house()), z -> z.tick(minutes));
        }

        Document.promise(13, "Throws `IllegalStateException` if it would be later than minute 99999");
        for (int left = 0; left <= 2000; left += left < 2 ? 1 : 999) {
            int last = 99999 - left;
            if (left > 0) {
                Check.is("up to the last minute", Sample.at(last, new BadgeZones()).tick(99999 - last), 99999);
            }
            if (left < 2000) {
                Check.badState("one more than " + left, () -> Sample.at(last, Sample.house()), z -> z.tick(100000 - last));
                Check.badState("2000, " + left + " left", () -> Sample.at(last, Sample.house()), z -> z.tick(2000));
            }
        }
    }

    private static void promise14() {
        Document.promise(14, "Begins or ends an alarm");
        Reasons r = new Reasons(false, false, 1 << 2);
        r.x.alarm(true);
        Check.is("in it 2 is not looked for", r.x.wouldBe(r.badge, r.door), 0);
        r.x.alarm(true);
        Check.is("it goes on", r.x.wouldBe(r.badge, r.door), 0);
        r.x.alarm(false);
        Check.is("after it 2 is looked for", r.x.wouldBe(r.badge, r.door), 2);
        r.x.alarm(false);
        Check.is("after it, again", r.x.wouldBe(r.badge, r.door), 2);

        Document.promise(14, "Returns whether there was one before");
        BadgeZones x = new BadgeZones();
        Check.is("none, to begin", x.alarm(true), false);
        Check.is("one, to begin", x.alarm(true), true);
        x.tick(2000);
        Check.is("one, to end", x.alarm(false), true);
        Check.is("none, to end", x.alarm(false), false);
        Check.is("none, to begin again", x.alarm(true), false);
    }

    private static void promise15() {
        Document.promise(15, "A badge asks at a door");
        BadgeZones x = Sample.hall(20, 10);
        for (int door = 1; door < 12; door++) {
            x.addDoor(0, 1, 1, 0);
        }
        Check.is("the last badge at the last door", x.request(9, 11), 0);
        Check.is("that badge has passed", x.inside(1), 512);
        Check.is("that door is open", x.openFor(11), 1);
        Check.is("no other one", x.openFor(10), 0);

        Document.promise(15, "Returns the answer, 0 to 9");
        for (int reason = 0; reason <= 9; reason++) {
            Check.is("for reason " + reason, only(reason).ask(), reason);
        }

        Document.promise(15, "Throws `IndexOutOfBoundsException` if there is no such badge or door");
        NoSuch.badge((y, badge) -> y.request(badge, 0));
        NoSuch.door((y, door) -> y.request(0, door));
        NoSuch.badge((y, both) -> y.request(both, 12));
        Check.outOfBounds("a blocked badge at no door", RequestSentences::withBlocked, y -> y.request(0, 4));
    }

    private static BadgeZones withBlocked() {
        BadgeZones x = Sample.houseByDay();
        x.block(0, true);
        return x;
    }

    private static void promise16() {
        Document.promise(16, "Returns what the answer would be now");
        for (int reason = 0; reason <= 9; reason++) {
            Reasons r = only(reason);
            Check.is("for reason " + reason, r.x.wouldBe(r.badge, r.door), reason);
        }
        BadgeZones x = Sample.hall(20, 1);
        x.setZone(1, 20, 1, 2);
        Check.is("before the goal is open", x.wouldBe(0, 0), 3);
        x.tick(1);
        Check.is("while it is open", x.wouldBe(0, 0), 0);
        x.tick(1);
        Check.is("after it", x.wouldBe(0, 0), 3);

        Document.promise(16, "nothing changes");
        for (int reason = 0; reason <= 9; reason++) {
            Reasons r = only(reason);
            long before = r.x.digest();
            for (int i = 0; i < 4; i++) {
                Check.is("the same again", r.x.wouldBe(r.badge, r.door), reason);
            }
            Check.is("the digest, reason " + reason, r.x.digest(), before);
            Check.is("the past and the future, reason " + reason, Picture.withFuture(r.x), Picture.withFuture(only(reason).x));
        }
        BadgeZones y = refused(2);
        Check.is("it would pass", y.wouldBe(0, 0), 0);
        Check.is("its refusals stay", y.badge(0, REFUSALS), 2);
        Check.is("it would be blocked", y.wouldBe(0, 1), 1);
        Check.is("it is not", y.badge(0, BLOCKED), 0);

        Document.promise(16, "Throws `IndexOutOfBoundsException` if there is no such badge or door");
        NoSuch.badge((z, badge) -> z.wouldBe(badge, 0));
        NoSuch.door((z, door) -> z.wouldBe(0, door));
        NoSuch.badge((z, both) -> z.wouldBe(both, 12));
        Check.outOfBounds("a blocked badge at no door", RequestSentences::withBlocked, z -> z.wouldBe(0, 4));
    }

    private static void promise17() {
        Document.promise(17, "Returns the minute that it is");
        BadgeZones x = new BadgeZones();
        Check.is("at first", x.now(), 0);
        int due = 0;
        for (int minutes : new int[] {1, 2, 1437, 1, 2000, 559}) {
            due += minutes;
            x.tick(minutes);
            Check.is("after " + minutes, x.now(), due);
        }
        Check.is("the last minute", Sample.at(99999, new BadgeZones()).now(), 99999);
    }
}
