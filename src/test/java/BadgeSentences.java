/** Badges in the Description, and promises 8 to 12: a test for each sentence. */
final class BadgeSentences {
    private static final int ZONE = 0;
    private static final int RIGHTS = 1;
    private static final int HOST = 2;
    private static final int BLOCKED = 3;
    private static final int REFUSALS = 4;

    private BadgeSentences() {
    }

    static void test() {
        numbers();
        zones();
        rights();
        visitors();
        blocking();
        promise8();
        promise9();
        promise10();
        promise11();
        promise12();
        badgeThrows();
    }

    /** Ten badges of the staff: no visitor is among them, so each could be a host. */
    private static BadgeZones fullOfStaff() {
        return Sample.hall(20, 10);
    }

    private static void numbers() {
        Document.description("There are at most 10, numbered from 0 in the order of their creation");
        BadgeZones x = new BadgeZones();
        for (int badge = 0; badge < 10; badge++) {
            Check.is("its number", badge % 3 == 2 ? x.addVisitor(0) : x.addBadge(badge), badge);
        }
        Check.is("the rights of the last one", x.badge(9, RIGHTS), 9);
        Check.is("the host of the one before", x.badge(8, HOST), 0);
        Check.badState("one more of the staff", Sample::full, y -> y.addBadge(0));
        Check.badState("one more visitor's", Sample::full, y -> y.addVisitor(0));
        Check.outOfBounds("badge 10", Sample::full, y -> y.badge(10, 0));
    }

    private static void zones() {
        Document.description("A badge is in some zone, at first, and at all minutes before, in zone 0");
        BadgeZones x = Sample.hall(20, 1);
        x.request(0, 0);
        Sample.at(3000, x);
        Check.is("added late", x.addBadge(2), 1);
        Check.is("a visitor", x.addVisitor(0), 2);
        for (int badge = 1; badge < 3; badge++) {
            Check.is("at first", x.badge(badge, ZONE), 0);
            for (int minute : new int[] {0, 1, 1500, 2999, 3000}) {
                Check.is("at minute " + minute, x.wasIn(badge, minute), 0);
            }
            Check.is("minutes in zone 0", x.minutesIn(badge, 0), 3000);
            Check.is("minutes in zone 1", x.minutesIn(badge, 1), 0);
            x.request(badge, 0);
            Check.is("then", x.badge(badge, ZONE), 1);
            Check.is("its own minute", x.wasIn(badge, 3000), 1);
            Check.is("the minute before it was added", x.wasIn(badge, 2999), 0);
        }
    }

    private static void rights() {
        Document.description("It is of the staff, and has rights, a set of zones");
        for (int rights = 0; rights < 256; rights += 2) {
            BadgeZones x = new BadgeZones();
            x.addBadge(rights);
            for (int zone = 1; zone < 8; zone++) {
                x.addZone(20, 0, 1440);
                x.addDoor(0, zone, 0, 0);
                int due = (rights & 1 << zone) != 0 ? 0 : 2;
                Check.is("rights " + rights + ", zone " + zone, x.wouldBe(0, zone - 1), due);
            }
        }

        Document.description("Nobody needs a right for zone 0");
        BadgeZones y = Sample.hall(20, 1);
        y.addVisitor(0);
        y.request(0, 0);
        y.request(1, 0);
        y.setRights(0, 0);
        Check.is("a visitor goes out", y.request(1, 0), 0);
        Check.is("the staff goes out", y.request(0, 0), 0);
        y.setRights(0, 1);
        Check.is("a right for zone 0 is none for zone 1", y.request(0, 0), 2);
    }

    private static void visitors() {
        Document.description("or it is a visitor's, which has a host, a badge of the staff, and always the rights of the host");
        BadgeZones x = Sample.hall(20, 2);
        x.setRights(0, 5);
        x.addVisitor(0);
        x.addVisitor(1);
        Check.is("the host of the first", x.badge(2, HOST), 0);
        Check.is("the host of the second", x.badge(3, HOST), 1);
        Check.is("the rights of host 0", x.badge(2, RIGHTS), 5);
        Check.is("the rights of host 1", x.badge(3, RIGHTS), 2);
        Check.is("the first has no right", x.wouldBe(2, 0), 2);
        Check.is("the second has", x.wouldBe(3, 0), 0);
        x.setRights(0, 255);
        x.setRights(1, 0);
        Check.is("the rights of host 0, set later", x.badge(2, RIGHTS), 255);
        Check.is("the rights of host 1, set later", x.badge(3, RIGHTS), 0);
        Check.is("the first has the right now", x.wouldBe(2, 0), 0);
        Check.is("the second has it no more", x.wouldBe(3, 0), 2);
        Check.is("ways too: the first", x.way(2, 1), 1);
        Check.is("ways too: the second", x.way(3, 1), -1);
        Check.badArgument("a visitor as a host", Sample::houseByDay, y -> y.addVisitor(2));
    }

    private static void blocking() {
        Document.description("A badge can be blocked");
        BadgeZones x = Sample.houseByDay();
        for (int badge = 0; badge < 3; badge++) {
            Check.is("at first", x.badge(badge, BLOCKED), 0);
            x.block(badge, true);
            Check.is("then", x.badge(badge, BLOCKED), 1);
            Check.is("the next one", x.badge(2, BLOCKED), badge == 2 ? 1 : 0);
        }
    }

    private static void promise8() {
        Document.promise(8, "Adds a badge of the staff");
        BadgeZones x = Sample.houseByDay();
        x.addBadge(200);
        Check.is("it is in zone 0", x.badge(3, ZONE), 0);
        Check.is("its rights", x.badge(3, RIGHTS), 200);
        Check.is("it has no host", x.badge(3, HOST), -1);
        Check.is("it is not blocked", x.badge(3, BLOCKED), 0);
        Check.is("it has no refusals", x.badge(3, REFUSALS), 0);
        Check.is("it can be a host", x.addVisitor(3), 4);

        Document.promise(8, "Returns its number");
        BadgeZones y = new BadgeZones();
        for (int badge = 0; badge < 10; badge++) {
            Check.is("number", y.addBadge(badge), badge);
        }

        Document.promise(8, "Throws `IllegalArgumentException` if rights is not 0 to 255 "
            + "(zones that are not there yet can be in it)");
        for (int rights : Sample.beyond(256)) {
            Check.badArgument("rights " + rights, BadgeZones::new, z -> z.addBadge(rights));
            Check.badArgument("rights " + rights, Sample::houseByDay, z -> z.addBadge(rights));
        }
        for (int rights : new int[] {0, 1, 254, 255}) {
            BadgeZones z = new BadgeZones();
            Check.is("rights " + rights, z.addBadge(rights), 0);
            Check.is("rights told", z.badge(0, RIGHTS), rights);
        }
        BadgeZones w = new BadgeZones();
        w.addBadge(2);
        w.addZone(1, 0, 1440);
        w.addDoor(0, 1, 0, 0);
        Check.is("a zone that was not there yet", w.request(0, 0), 0);

        Document.promise(8, "Throws `IllegalStateException` if there are 10 badges");
        for (int rights : new int[] {0, 255}) {
            Check.badState("ten with visitors", Sample::full, z -> z.addBadge(rights));
            Check.badState("ten of the staff", BadgeSentences::fullOfStaff, z -> z.addBadge(rights));
        }
    }

    private static void promise9() {
        Document.promise(9, "Adds a badge of a visitor");
        BadgeZones x = Sample.houseByDay();
        x.block(0, true);
        x.addVisitor(0);
        Check.is("it is in zone 0", x.badge(3, ZONE), 0);
        Check.is("its rights are the host's", x.badge(3, RIGHTS), 14);
        Check.is("its host", x.badge(3, HOST), 0);
        Check.is("it is not blocked as its host is", x.badge(3, BLOCKED), 0);
        Check.is("it has no refusals", x.badge(3, REFUSALS), 0);

        Document.promise(9, "Returns its number");
        BadgeZones y = new BadgeZones();
        y.addBadge(0);
        for (int badge = 1; badge < 10; badge++) {
            Check.is("number", y.addVisitor(0), badge);
        }

        Document.promise(9, "Throws `IndexOutOfBoundsException` if there is no such badge");
        NoSuch.badge((z, host) -> z.addVisitor(host));

        Document.promise(9, "Throws `IllegalArgumentException` if host is a visitor's badge");
        Check.badArgument("host 2", Sample::houseByDay, z -> z.addVisitor(2));
        Check.badArgument("host 8 of ten", Sample::full, z -> z.addVisitor(8));
        Check.badArgument("host 9 of ten", Sample::full, z -> z.addVisitor(9));

        Document.promise(9, "Throws `IllegalStateException` if there are 10 badges");
        for (int host = 0; host < 8; host++) {
            int staff = host;
            Check.badState("host " + host, Sample::full, z -> z.addVisitor(staff));
        }
        Check.badState("the last one as a host", BadgeSentences::fullOfStaff, z -> z.addVisitor(9));
    }

    private static void promise10() {
        Document.promise(10, "Sets the rights of a badge of the staff");
        BadgeZones x = Sample.houseByDay();
        x.setRights(1, 255);
        Check.is("its rights", x.badge(1, RIGHTS), 255);
        Check.is("those of another stay", x.badge(0, RIGHTS), 14);
        x.setRights(1, 251);
        Check.is("it has no right for zone 2", x.request(1, 2), 2);
        x.setRights(1, 4);
        Check.is("it has the right for it", x.request(1, 2), 0);
        x.setRights(1, 0);
        Check.is("it needs not leave", x.badge(1, ZONE), 2);

        Document.promise(10, "Returns the rights before");
        BadgeZones y = Sample.houseByDay();
        Check.is("those it was added with", y.setRights(0, 255), 14);
        Check.is("the most", y.setRights(0, 0), 255);
        Check.is("the least", y.setRights(0, 0), 0);
        Check.is("the same", y.setRights(0, 14), 0);

        Document.promise(10, "Throws `IndexOutOfBoundsException` if there is no such badge");
        NoSuch.badge((z, badge) -> z.setRights(badge, 1));

        Document.promise(10, "Throws `IllegalArgumentException` if rights is not 0 to 255");
        for (int rights : Sample.beyond(256)) {
            Check.badArgument("rights " + rights, Sample::houseByDay, z -> z.setRights(0, rights));
        }
        Check.is("the least", Sample.houseByDay().setRights(0, 0), 14);
        Check.is("the most", Sample.houseByDay().setRights(0, 255), 14);

        Document.promise(10, "Throws `IllegalStateException` if it is a visitor's badge");
        for (int rights : new int[] {0, 14, 255}) {
            Check.badState("rights " + rights, Sample::houseByDay, z -> z.setRights(2, rights));
            Check.badState("the last of ten", Sample::full, z -> z.setRights(9, rights));
        }
    }

    private static void promise11() {
        Document.promise(11, "Blocks or unblocks a badge");
        BadgeZones x = Sample.houseByDay();
        x.block(0, true);
        Check.is("blocked", x.badge(0, BLOCKED), 1);
        Check.is("it is told so", x.request(0, 3), 8);
        Check.is("its visitor is not", x.badge(2, BLOCKED), 0);
        x.block(0, true);
        Check.is("blocked again", x.badge(0, BLOCKED), 1);
        x.block(0, false);
        Check.is("unblocked", x.badge(0, BLOCKED), 0);
        Check.is("it is told another thing", x.request(0, 3), 1);
        x.block(0, false);
        Check.is("unblocked again", x.badge(0, BLOCKED), 0);

        Document.promise(11, "Returns whether it was blocked before");
        BadgeZones y = Sample.houseByDay();
        Check.is("at first", y.block(0, true), false);
        Check.is("blocked, to be blocked", y.block(0, true), true);
        Check.is("blocked, to be unblocked", y.block(0, false), true);
        Check.is("unblocked, to be unblocked", y.block(0, false), false);
        y.request(1, 0);
        y.request(1, 0);
        Check.is("blocked by its third refusal", y.block(1, false), true);
        Check.is("another", y.block(2, false), false);

        Document.promise(11, "Throws `IndexOutOfBoundsException` if there is no such badge");
        NoSuch.badge((z, badge) -> z.block(badge, true));
        NoSuch.badge((z, badge) -> z.block(badge, false));
    }

    private static void promise12() {
        BadgeZones x = Sample.houseByDay();
        Document.promise(12, "- `what`: 0 its zone");
        Check.is("inside", x.badge(0, ZONE), 1);
        Check.is("outside", x.badge(1, ZONE), 0);
        BadgeZones y = Sample.row(7);
        y.addBadge(255);
        for (int door = 0; door < 7; door++) {
            y.request(0, door);
            Check.is("after door " + door, y.badge(0, ZONE), door + 1);
        }

        Document.promise(12, "1 its rights");
        Check.is("of the staff", x.badge(1, RIGHTS), 4);
        Check.is("a visitor's", x.badge(2, RIGHTS), 14);
        Check.is("all", y.badge(0, RIGHTS), 255);

        Document.promise(12, "2 its host, -1 if it is of the staff");
        Check.is("of the staff", x.badge(0, HOST), -1);
        Check.is("a visitor's, host 0", x.badge(2, HOST), 0);
        Check.is("a visitor's, host 7", Sample.full().badge(9, HOST), 7);

        Document.promise(12, "3 1 if it is blocked, else 0");
        Check.is("it is not", x.badge(2, BLOCKED), 0);
        x.block(2, true);
        Check.is("it is", x.badge(2, BLOCKED), 1);
        x.block(2, false);
        Check.is("it is no more", x.badge(2, BLOCKED), 0);

        Document.promise(12, "4 how many refusals it has in a row");
        for (int refusals = 1; refusals <= 3; refusals++) {
            Check.is("so many", x.badge(1, REFUSALS), refusals);
            x.request(1, 0);
        }
        Check.is("three, and blocked", x.badge(1, REFUSALS), 3);

        Document.promise(12, "Returns this");
        int[] due = {0, 4, -1, 1, 3};
        for (int what = 0; what < 5; what++) {
            Check.is("what " + what, x.badge(1, what), due[what]);
        }
    }

    private static void badgeThrows() {
        Document.promise(12, "Throws `IndexOutOfBoundsException` if there is no such badge, or what is not 0 to 4");
        for (int what : Sample.beyond(5)) {
            Check.outOfBounds("what " + what, Sample::houseByDay, x -> x.badge(0, what));
            Check.outOfBounds("badge and what " + what, Sample::houseByDay, x -> x.badge(what, what));
        }
        NoSuch.badge((x, badge) -> x.badge(badge, 0));
        NoSuch.badge((x, badge) -> x.badge(badge, 4));
    }
}
