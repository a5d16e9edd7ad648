/** Promises 8 to 12: badges, visitors, rights, blocking, what is told of a badge. */
public final class BadgeTest {
    public static void main(String[] args) {
        addBadge();
        addBadgeRefuses();
        addVisitor();
        addVisitorRefuses();
        setRights();
        setRightsRefuses();
        block();
        badge();
        badgeRefuses();
        Check.done("BadgeTest");
    }

    private static void told(String when, BadgeZones x, int badge, int... due) {
        for (int what = 0; what < due.length; what++) {
            Check.is(when + ": badge(" + badge + ", " + what + ")", x.badge(badge, what), due[what]);
        }
    }

    private static void addBadge() {
        BadgeZones x = new BadgeZones();
        x.tick(50);
        for (int badge = 0; badge < 10; badge++) {
            Check.is("addBadge", x.addBadge(badge == 9 ? 255 : badge), badge);
        }
        told("least rights", x, 0, 0, 0, -1, 0, 0);
        told("most rights", x, 9, 0, 255, -1, 0, 0);
        Check.is("all are outside", x.inside(0), 1023);
    }

    private static void addBadgeRefuses() {
        for (int rights : new int[] {-1, 256, Integer.MIN_VALUE, Integer.MAX_VALUE}) {
            Check.badArgument("addBadge, wrong", Sample::houseByDay, x -> x.addBadge(rights));
            Check.badArgument("addBadge, wrong and full", Sample::full, x -> x.addBadge(rights));
        }
        Check.badState("addBadge, full", Sample::full, x -> x.addBadge(0));
    }

    private static void addVisitor() {
        BadgeZones x = new BadgeZones();
        x.addBadge(1);
        x.addBadge(200);
        for (int badge = 2; badge < 10; badge++) {
            Check.is("addVisitor", x.addVisitor(badge % 2), badge);
        }
        told("host 0", x, 2, 0, 1, 0, 0, 0);
        told("host 1", x, 9, 0, 200, 1, 0, 0);
        BadgeZones y = Sample.houseByDay();
        y.block(0, true);
        Check.is("a blocked host", y.addVisitor(0), 3);
        told("a visitor is outside and not blocked", y, 3, 0, 14, 0, 0, 0);
    }

    private static void addVisitorRefuses() {
        for (int host : new int[] {-1, 3, 10, Integer.MIN_VALUE, Integer.MAX_VALUE}) {
            Check.outOfBounds("addVisitor(" + host + ")", Sample::houseByDay, x -> x.addVisitor(host));
        }
        Check.outOfBounds("addVisitor, no badge and full", Sample::full, x -> x.addVisitor(10));
        Check.badArgument("addVisitor of a visitor", Sample::houseByDay, x -> x.addVisitor(2));
        Check.badArgument("addVisitor of a visitor and full", Sample::full, x -> x.addVisitor(8));
        Check.badState("addVisitor, full", Sample::full, x -> x.addVisitor(0));
    }

    private static void setRights() {
        BadgeZones x = Sample.houseByDay();
        Check.is("the rights before", x.setRights(0, 255), 14);
        Check.is("the rights before, again", x.setRights(0, 0), 255);
        told("the host", x, 0, 1, 0, -1, 0, 0);
        told("its visitor", x, 2, 1, 0, 0, 0, 0);
        told("another", x, 1, 0, 4, -1, 0, 1);
    }

    private static void setRightsRefuses() {
        for (int rights : new int[] {-1, 256, Integer.MAX_VALUE}) {
            Check.outOfBounds("setRights, no badge and wrong", Sample::houseByDay, x -> x.setRights(3, rights));
            Check.badArgument("setRights, wrong", Sample::houseByDay, x -> x.setRights(0, rights));
            Check.badArgument("setRights, wrong and a visitor", Sample::houseByDay, x -> x.setRights(2, rights));
        }
        for (int badge : new int[] {-1, 3, 10, Integer.MAX_VALUE}) {
            Check.outOfBounds("setRights(" + badge + ")", Sample::houseByDay, x -> x.setRights(badge, 1));
        }
        Check.badState("setRights of a visitor", Sample::houseByDay, x -> x.setRights(2, 14));
    }

    private static void block() {
        BadgeZones x = Sample.houseByDay();
        Check.is("not blocked before", x.block(1, true), false);
        told("no refusals any more", x, 1, 0, 4, -1, 1, 0);
        Check.is("blocked before", x.block(1, true), true);
        Check.is("unblocked", x.block(1, false), true);
        x.request(1, 3);
        x.request(1, 3);
        told("two refusals", x, 1, 0, 4, -1, 0, 2);
        Check.is("unblocked, and so it was before", x.block(1, false), false);
        told("no refusals any more, again", x, 1, 0, 4, -1, 0, 0);
        for (int refusal = 0; refusal < 3; refusal++) {
            x.request(1, 3);
        }
        told("three refusals", x, 1, 0, 4, -1, 1, 3);
        Check.is("blocked, and so it was before", x.block(1, true), true);
        told("blocked with no refusals", x, 1, 0, 4, -1, 1, 0);
        Check.is("the others are not", x.block(0, false), false);
        for (int badge : new int[] {-1, 3, 10, Integer.MIN_VALUE}) {
            Check.outOfBounds("block(" + badge + ")", Sample::houseByDay, y -> y.block(badge, true));
        }
    }

    private static void badge() {
        BadgeZones x = Sample.houseByDay();
        told("staff inside", x, 0, 1, 14, -1, 0, 0);
        told("staff refused", x, 1, 0, 4, -1, 0, 1);
        told("visitor", x, 2, 1, 14, 0, 0, 0);
        x.block(2, true);
        told("visitor blocked", x, 2, 1, 14, 0, 1, 0);
        told("its host is not", x, 0, 1, 14, -1, 0, 0);
    }

    private static void badgeRefuses() {
        for (int badge : new int[] {-1, 3, 10, Integer.MAX_VALUE}) {
            Check.outOfBounds("badge(" + badge + ", 0)", Sample::houseByDay, x -> x.badge(badge, 0));
        }
        for (int what : new int[] {-1, 5, Integer.MIN_VALUE, Integer.MAX_VALUE}) {
            Check.outOfBounds("badge(0, " + what + ")", Sample::houseByDay, x -> x.badge(0, what));
        }
    }
}
