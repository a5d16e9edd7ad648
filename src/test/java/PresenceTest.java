/** Promises 18 to 22: who is inside, who is alone, where a badge was and for how long, presence. */
public final class PresenceTest {
    public static void main(String[] args) {
        inside();
        alone();
        wasIn();
        wasInOfANewBadge();
        wasInRefuses();
        minutesIn();
        manyMoves();
        presence();
        Check.done("PresenceTest");
    }

    private static void inside() {
        BadgeZones x = Sample.houseByDay();
        Check.is("outside", x.inside(0), 2);
        Check.is("zone 1", x.inside(1), 5);
        Check.is("zone 2", x.inside(2), 0);
        x.request(1, 2);
        Check.is("nobody is outside", x.inside(0), 0);
        Check.is("badge 1 in zone 2", x.inside(2), 2);
        Check.is("all ten", Sample.full().inside(0), 1023);
        for (int zone : new int[] {-1, 4, 8, Integer.MAX_VALUE}) {
            Check.outOfBounds("inside(" + zone + ")", Sample::houseByDay, y -> y.inside(zone));
        }
    }

    private static void alone() {
        BadgeZones x = Sample.row(2);
        x.addBadge(6);
        x.addBadge(6);
        x.addVisitor(0);
        x.addVisitor(1);
        Check.is("all are outside", x.alone(), 0);
        x.request(2, 0);
        Check.is("one is inside, its host outside", x.alone(), 4);
        x.request(3, 0);
        Check.is("two are", x.alone(), 12);
        x.request(0, 0);
        Check.is("one host follows", x.alone(), 8);
        x.request(0, 1);
        Check.is("the staff is never alone", x.alone(), 8);
        x.request(3, 0);
        Check.is("outside is not alone", x.alone(), 0);
        x.request(1, 0);
        Check.is("a visitor outside, its host inside", x.alone(), 0);
    }

    private static void wasIn() {
        BadgeZones x = Sample.row(2);
        x.addBadge(6);
        Check.is("now", x.wasIn(0, 0), 0);
        x.request(0, 0);
        Check.is("now, after a move", x.wasIn(0, 0), 1);
        x.tick(10);
        x.request(0, 1);
        x.request(0, 1);
        x.request(0, 1);
        x.tick(5);
        x.request(0, 1);
        x.request(0, 0);
        Check.is("at the first minute's end", x.wasIn(0, 0), 1);
        Check.is("just ahead of a move", x.wasIn(0, 9), 1);
        Check.is("at the end of a minute of three moves", x.wasIn(0, 10), 2);
        Check.is("just ahead of the next one", x.wasIn(0, 14), 2);
        Check.is("this minute is now", x.wasIn(0, 15), 0);
        x.tick(2000);
        Check.is("this minute, later", x.wasIn(0, 2015), 0);
        Check.is("that minute, later", x.wasIn(0, 14), 2);
    }

    private static void wasInOfANewBadge() {
        BadgeZones x = Sample.row(1);
        x.tick(40);
        x.addBadge(2);
        x.request(0, 0);
        Check.is("at all minutes before", x.wasIn(0, 0), 0);
        Check.is("just before", x.wasIn(0, 39), 0);
        Check.is("now", x.wasIn(0, 40), 1);
        Check.is("before counts for zone 0", x.minutesIn(0, 0), 40);
        x.addVisitor(0);
        Check.is("a visitor, before", x.wasIn(1, 20), 0);
        Check.is("a visitor, for zone 0", x.minutesIn(1, 0), 40);
    }

    private static void wasInRefuses() {
        for (int badge : new int[] {-1, 3, 10, Integer.MIN_VALUE}) {
            Check.outOfBounds("wasIn(" + badge + ", 0)", Sample::houseByDay, x -> x.wasIn(badge, 0));
            Check.outOfBounds("wasIn(" + badge + ", -1)", Sample::houseByDay, x -> x.wasIn(badge, -1));
        }
        for (int minute : new int[] {-1, 511, Integer.MIN_VALUE, Integer.MAX_VALUE}) {
            Check.badArgument("wasIn(0, " + minute + ")", Sample::houseByDay, x -> x.wasIn(0, minute));
        }
        Check.is("wasIn, this minute", Sample.houseByDay().wasIn(0, 510), 1);
    }

    private static void minutesIn() {
        BadgeZones x = Sample.row(2);
        x.addBadge(6);
        Check.is("but for this minute", x.minutesIn(0, 0), 0);
        x.tick(7);
        Check.is("seven minutes", x.minutesIn(0, 0), 7);
        x.request(0, 0);
        Check.is("not this minute", x.minutesIn(0, 1), 0);
        x.tick(1);
        Check.is("one minute", x.minutesIn(0, 1), 1);
        x.request(0, 1);
        x.request(0, 1);
        x.tick(100);
        Check.is("zone 2 at no minute's end", x.minutesIn(0, 2), 0);
        Check.is("zone 1 all the while", x.minutesIn(0, 1), 101);
        x.request(0, 0);
        x.tick(3);
        Check.is("zone 0 twice", x.minutesIn(0, 0), 10);
        Check.is("zone 1 once", x.minutesIn(0, 1), 101);
        int[][] wrong = {{-1, 0}, {3, 0}, {10, 0}, {0, -1}, {0, 4}, {0, 8}, {3, 4}, {Integer.MAX_VALUE, 0}};
        for (int[] w : wrong) {
            Check.outOfBounds("minutesIn, wrong", Sample::houseByDay, y -> y.minutesIn(w[0], w[1]));
        }
    }

    /** As many moves, each in a minute of its own, as the 512 calls have room for. */
    private static void manyMoves() {
        BadgeZones x = Sample.row(1);
        x.addBadge(2);
        for (int move = 0; move < 252; move++) {
            x.tick(1);
            x.request(0, 0);
        }
        Check.is("in zone 1 every second minute", x.minutesIn(0, 1), 126);
        Check.is("in zone 0 every second minute", x.minutesIn(0, 0), 126);
        Check.is("minute 0", x.wasIn(0, 0), 0);
        Check.is("minute 1", x.wasIn(0, 1), 1);
        Check.is("minute 251", x.wasIn(0, 251), 1);
    }

    private static void presence() {
        BadgeZones x = Sample.row(1);
        Check.is("no badges", x.presence(), 0.0);
        x.addBadge(2);
        Check.is("nobody", x.presence(), 0.0);
        x.request(0, 0);
        Check.is("one of one", x.presence(), 1.0);
        x.addBadge(2);
        Check.is("one of two", x.presence(), 0.5);
        x.addVisitor(0);
        Check.is("one of three", x.presence(), 1.0 / 3.0);
        x.request(2, 0);
        Check.is("visitors count", x.presence(), 2.0 / 3.0);
        x.block(2, true);
        Check.is("blocked ones too", x.presence(), 2.0 / 3.0);
    }
}
