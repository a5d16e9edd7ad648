/** Promises 23 to 26: ways, first doors, who can come, the digest. */
public final class WayTest {
    public static void main(String[] args) {
        way();
        wayByRights();
        wayByHours();
        whatDoesNotMatter();
        next();
        canCome();
        wrongNumbers();
        digest();
        Check.done("WayTest");
    }

    private static void leads(String why, BadgeZones x, int badge, int zone, int way, int next) {
        Check.is(why + ": way(" + badge + ", " + zone + ")", x.way(badge, zone), way);
        Check.is(why + ": next(" + badge + ", " + zone + ")", x.next(badge, zone), next);
    }

    private static void way() {
        BadgeZones x = Sample.row(7);
        x.addBadge(254);
        leads("it is there", x, 0, 0, 0, -1);
        leads("a row", x, 0, 7, 7, 0);
        x.addDoor(2, 7, 0, 0);
        leads("a shorter way", x, 0, 7, 3, 0);
        leads("partly back", x, 0, 6, 4, 0);
        x.request(0, 0);
        x.request(0, 1);
        leads("from zone 2", x, 0, 6, 2, 7);
        leads("out", x, 0, 0, 2, 1);
    }

    private static void wayByRights() {
        BadgeZones x = Sample.row(3);
        x.addBadge(14);
        x.addVisitor(0);
        x.addBadge(8);
        leads("the rights of all", x, 0, 3, 3, 0);
        leads("a visitor's", x, 1, 3, 3, 0);
        leads("the last one's right only", x, 2, 3, -1, -1);
        x.request(0, 0);
        x.request(0, 1);
        x.setRights(0, 8);
        leads("its own zone needs none", x, 0, 2, 0, -1);
        leads("on needs the goal's only", x, 0, 3, 1, 2);
        leads("zone 1 would be entered", x, 0, 0, -1, -1);
        x.setRights(0, 2);
        leads("none for zone 0", x, 0, 0, 2, 1);
        leads("a visitor, by its host", x, 1, 2, -1, -1);
    }

    private static void wayByHours() {
        BadgeZones x = Sample.row(3);
        x.addDoor(0, 3, 0, 0);
        x.addBadge(14);
        x.setZone(1, 1, 100, 101);
        leads("round the closed zone", x, 0, 2, 2, 3);
        leads("to the closed zone", x, 0, 1, -1, -1);
        x.tick(100);
        leads("it is open", x, 0, 2, 2, 0);
        x.request(0, 0);
        x.tick(1);
        leads("it is there", x, 0, 1, 0, -1);
        leads("from a closed zone", x, 0, 3, 2, 0);
    }

    private static void whatDoesNotMatter() {
        BadgeZones x = Sample.row(2);
        x.addDoor(1, 2, 9, 1);
        x.addDoor(0, 1, 9, 1);
        x.addBadge(6);
        x.addBadge(6);
        x.addVisitor(0);
        x.request(0, 3);
        x.request(2, 0);
        x.setZone(1, 1, 0, 1440);
        x.setZone(2, 1, 0, 1440);
        x.block(1, true);
        x.alarm(true);
        leads("blocked, full, excluded, alarm", x, 1, 2, 2, 0);
        leads("a host with its visitor", x, 0, 2, 1, 1);
        Check.is("all can come", x.canCome(2), 7);
    }

    private static void next() {
        BadgeZones x = new BadgeZones();
        for (int zone = 1; zone <= 4; zone++) {
            x.addZone(1, 0, 1440);
        }
        int[][] sides = {{3, 4}, {3, 0}, {1, 4}, {0, 1}, {1, 0}, {2, 0}, {2, 4}};
        for (int[] side : sides) {
            x.addDoor(side[0], side[1], 0, 0);
        }
        x.addBadge(30);
        leads("the smallest first door of three ways", x, 0, 4, 2, 1);
        leads("of two doors the smaller one", x, 0, 1, 1, 3);
        x.setRights(0, 22);
        leads("of the two that are left", x, 0, 4, 2, 3);
        x.setRights(0, 20);
        leads("the last one", x, 0, 4, 2, 5);
        x.addDoor(0, 4, 0, 0);
        leads("a shorter way with a greater door", x, 0, 4, 1, 7);
        x.setRights(0, 4);
        leads("none", x, 0, 4, -1, -1);
        leads("a zone without a right is not entered first", x, 0, 1, -1, -1);
    }

    private static void canCome() {
        BadgeZones x = Sample.row(2);
        Check.is("no badges", x.canCome(1), 0);
        x.addBadge(6);
        x.addBadge(2);
        x.addVisitor(0);
        x.addBadge(4);
        Check.is("zone 1", x.canCome(1), 7);
        Check.is("zone 2", x.canCome(2), 5);
        Check.is("those that are there", x.canCome(0), 15);
        x.request(1, 0);
        x.setRights(1, 0);
        Check.is("it is there without a right", x.canCome(1), 7);
        x.setZone(1, 1, 700, 701);
        Check.is("it is there though closed", x.canCome(1), 2);
        Check.is("out needs no right", x.canCome(0), 15);
        Check.is("closed on the way", x.canCome(2), 0);
    }

    private static void wrongNumbers() {
        int[][] wrong = {{-1, 0}, {3, 0}, {10, 0}, {0, -1}, {0, 4}, {0, 8}, {3, 4}, {Integer.MAX_VALUE, 0}, {0, Integer.MIN_VALUE}};
        for (int[] w : wrong) {
            Check.outOfBounds("way, wrong", Sample::houseByDay, x -> x.way(w[0], w[1]));
            Check.outOfBounds("next, wrong", Sample::houseByDay, x -> x.next(w[0], w[1]));
        }
        for (int zone : new int[] {-1, 4, 8, Integer.MAX_VALUE}) {
            Check.outOfBounds("canCome(" + zone + ")", Sample::houseByDay, x -> x.canCome(zone));
        }
    }

    private static long summed(long... numbers) {
        long d = 179;
        for (long x : numbers) {
            d = d * 31 + x;
        }
        return d;
    }

    private static void digest() {
        BadgeZones x = new BadgeZones();
        Check.is("a new object's", x.digest(), summed(0, 0, 1, 1, 0, 0, 0));
        x.alarm(true);
        Check.is("in an alarm", x.digest(), summed(0, 1, 1, 1, 0, 0, 0));
        BadgeZones y = Sample.houseByDay();
        Check.is("by day", y.digest(), summed(510, 0, 4, 1, 2, 1, 5, 1, 0, 0, 0, 4, 0, 0, 0, 0,
            3, 1, 14, -1, 0, 0, 0, 4, -1, 0, 1, 1, 14, 0, 0, 0));
        y.block(2, true);
        y.request(1, 2);
        y.request(1, 3);
        Check.is("refused and blocked", y.digest(), summed(510, 0, 4, 1, 0, 1, 5, 1, 2, 0, 0, 4, 0, 0, 0, 0,
            3, 1, 14, -1, 0, 0, 2, 4, -1, 0, 1, 1, 14, 0, 1, 0));
        y.setRights(1, 12);
        y.setZone(3, 1, 500, 600);
        y.request(1, 3);
        y.tick(2);
        Check.is("a door with hold 9", y.digest(), summed(512, 0, 4, 1, 0, 1, 5, 1, 0, 1, 2, 4, 0, 0, 0, 7,
            3, 1, 14, -1, 0, 0, 3, 12, -1, 0, 0, 1, 14, 0, 1, 0));
        Check.is("it changes nothing", y.digest(), y.digest());
    }
}
