import java.util.ArrayList;

/** A control of badges in a house of zones; ../shared/DOC.md numbers its promises. */
public final class BadgeZones {
    private static final int MOST_ZONES = 8;
    private static final int MOST_DOORS = 12;
    private static final int MOST_BADGES = 10;
    private static final int MOST_CAPACITY = 20;
    private static final int MOST_HOLD = 9;
    private static final int MOST_LOCK = 3;
    private static final int ALL_RIGHTS = 255;
    private static final int MOST_TICK = 2000;
    private static final int LAST_MINUTE = 99999;
    private static final int DAY = 1440;
    private static final int REFUSALS_THAT_BLOCK = 3;
    private static final int ROOM_FOR_ALL = MOST_BADGES + 1;

    // An object is used for 512 calls, each moves a badge once at the most, and each badge has a first stay.
    private static final int MOST_STAYS = 513;

    private static final int NO_WAY = -1;
    private static final int NO_DOOR = -1;
    private static final int NO_HOST = -1;

    private static final int MAY_PASS = 0;
    private static final int NOT_AT_THE_DOOR = 1;
    private static final int NO_RIGHT = 2;
    private static final int NOT_OPEN = 3;
    private static final int FULL = 4;
    private static final int EXCLUDED = 5;
    private static final int WITHOUT_HOST = 6;
    private static final int LEAVES_VISITOR = 7;
    private static final int BLOCKED = 8;
    private static final int NOT_NEARER = 9;

    private static final int TELL_ZONE = 0;
    private static final int TELL_RIGHTS = 1;
    private static final int TELL_HOST = 2;
    private static final int TELL_BLOCKED = 3;
    private static final int TELL_REFUSALS = 4;

    private static final long DIGEST_START = 179L;
    private static final long DIGEST_FACTOR = 31L;

    private final Zone outside = new Zone(0, ROOM_FOR_ALL, 0, DAY);
    private final ArrayList<Zone> zones = new ArrayList<Zone>();
    private final ArrayList<Door> doors = new ArrayList<Door>();
    private final ArrayList<Badge> badges = new ArrayList<Badge>();
    private int minute = 0;
    private boolean isAlarm = false;

    public BadgeZones() {
        zones.add(outside);
    }

    // ---- the house

    public int addZone(int capacity, int begin, int end) throws IllegalArgumentException, IllegalStateException {
        checkZone(capacity, begin, end);
        int number = zones.size();
        if (number >= MOST_ZONES) {
            throw new IllegalStateException("no more zones");
        }
        zones.add(new Zone(number, capacity, begin, end));
        return number;
    }

    public int setZone(int zone, int capacity, int begin, int end) throws IndexOutOfBoundsException, IllegalArgumentException {
        Zone changed = zoneAt(zone);
        if (changed == outside) {
            throw new IndexOutOfBoundsException("zone 0 cannot be set");
        }
        checkZone(capacity, begin, end);
        changed.capacity = capacity;
        changed.begin = begin;
        changed.end = end;
        return countIn(changed);
    }

    public int addDoor(int a, int b, int hold, int lock) throws IndexOutOfBoundsException, IllegalArgumentException, IllegalStateException {
        Zone sideA = zoneAt(a);
        Zone sideB = zoneAt(b);
        if (a == b || !isWithin(hold, 0, MOST_HOLD) || !isWithin(lock, 0, MOST_LOCK)) {
            throw new IllegalArgumentException("not a door: sides, hold or lock");
        }
        int number = doors.size();
        if (number >= MOST_DOORS) {
            throw new IllegalStateException("no more doors");
        }
        doors.add(new Door(sideA, sideB, hold, lock));
        return number;
    }

    public int distance(int zone) throws IndexOutOfBoundsException {
        Zone from = zoneAt(zone);
        measureDistances();
        return from.doorsLeft;
    }

    public boolean isOpen(int zone) throws IndexOutOfBoundsException {
        return zoneAt(zone).hasHoursAt(minute);
    }

    public int openFor(int door) throws IndexOutOfBoundsException {
        return doorAt(door).minutesLeft(minute);
    }

    // ---- badges

    public int addBadge(int rights) throws IllegalArgumentException, IllegalStateException {
        checkRights(rights);
        return keepBadge(null, rights);
    }

    public int addVisitor(int host) throws IndexOutOfBoundsException, IllegalArgumentException, IllegalStateException {
        Badge hostBadge = badgeAt(host);
        if (hostBadge.host != null) {
            throw new IllegalArgumentException("a visitor cannot be a host");
        }
        return keepBadge(hostBadge, 0);
    }

    public int setRights(int badge, int rights) throws IndexOutOfBoundsException, IllegalArgumentException, IllegalStateException {
        Badge changed = badgeAt(badge);
        checkRights(rights);
        if (changed.host != null) {
            throw new IllegalStateException("a visitor has the rights of the host");
        }
        int before = changed.ownRights;
        changed.ownRights = rights;
        return before;
    }

    public boolean block(int badge, boolean isBlocked) throws IndexOutOfBoundsException {
        Badge changed = badgeAt(badge);
        boolean before = changed.isBlocked;
        changed.isBlocked = isBlocked;
        changed.refusals = 0;
        return before;
    }

    public int badge(int badge, int what) throws IndexOutOfBoundsException {
        Badge told = badgeAt(badge);
        if (!isWithin(what, TELL_ZONE, TELL_REFUSALS)) {
            throw new IndexOutOfBoundsException("what is not 0 to 4");
        }
        return told.tell(what);
    }

    // ---- what happens

    public int tick(int minutes) throws IllegalArgumentException, IllegalStateException {
        if (!isWithin(minutes, 1, MOST_TICK)) {
            throw new IllegalArgumentException("minutes are not 1 to 2000");
        }
        if (minutes > LAST_MINUTE - minute) {
            throw new IllegalStateException("later than the last minute");
        }
        minute += minutes;
        return minute;
    }

    public boolean alarm(boolean isOn) {
        boolean before = isAlarm;
        isAlarm = isOn;
        return before;
    }

    public int request(int badge, int door) throws IndexOutOfBoundsException {
        Badge asking = badgeAt(badge);
        Door asked = doorAt(door);
        int answer = answerTo(asking, asked);
        if (answer == MAY_PASS) {
            pass(asking, asked);
        } else if (answer != BLOCKED) {
            asking.countRefusal();
        }
        return answer;
    }

    public int wouldBe(int badge, int door) throws IndexOutOfBoundsException {
        Badge asking = badgeAt(badge);
        return answerTo(asking, doorAt(door));
    }

    public int now() {
        return minute;
    }

    // ---- who is where

    public int inside(int zone) throws IndexOutOfBoundsException {
        return badgesIn(zoneAt(zone));
    }

    public int alone() {
        int set = 0;
        for (int i = 0; i < badges.size(); i++) {
            if (badges.get(i).isAlone(outside)) {
                set |= 1 << i;
            }
        }
        return set;
    }

    public int wasIn(int badge, int minute) throws IndexOutOfBoundsException, IllegalArgumentException {
        Badge seen = badgeAt(badge);
        if (!isWithin(minute, 0, this.minute)) {
            throw new IllegalArgumentException("not a minute up to now");
        }
        return seen.zoneAtEndOf(minute).number;
    }

    public int minutesIn(int badge, int zone) throws IndexOutOfBoundsException {
        Badge seen = badgeAt(badge);
        return seen.minutesSpent(zoneAt(zone), minute);
    }

    public double presence() {
        int all = badges.size();
        if (all == 0) {
            return 0.0;
        }
        return (double) (all - countIn(outside)) / (double) all;
    }

    // ---- ways

    public int way(int badge, int zone) throws IndexOutOfBoundsException {
        Badge walking = badgeAt(badge);
        measureWays(walking, zoneAt(zone));
        return walking.stay.zone.doorsLeft;
    }

    public int next(int badge, int zone) throws IndexOutOfBoundsException {
        Badge walking = badgeAt(badge);
        measureWays(walking, zoneAt(zone));
        return firstDoorFrom(walking.stay.zone);
    }

    public int canCome(int zone) throws IndexOutOfBoundsException {
        Zone target = zoneAt(zone);
        int set = 0;
        for (int i = 0; i < badges.size(); i++) {
            Badge walking = badges.get(i);
            measureWays(walking, target);
            if (walking.stay.zone.doorsLeft != NO_WAY) {
                set |= 1 << i;
            }
        }
        return set;
    }

    public long digest() {
        long sum = addTo(DIGEST_START, minute);
        sum = addTo(sum, isAlarm ? 1 : 0);
        sum = addTo(sum, zones.size());
        for (int i = 0; i < zones.size(); i++) {
            Zone zone = zones.get(i);
            sum = addTo(sum, zone.hasHoursAt(minute) ? 1 : 0);
            sum = addTo(sum, badgesIn(zone));
        }
        sum = addTo(sum, doors.size());
        for (int i = 0; i < doors.size(); i++) {
            sum = addTo(sum, doors.get(i).minutesLeft(minute));
        }
        sum = addTo(sum, badges.size());
        for (int i = 0; i < badges.size(); i++) {
            Badge badge = badges.get(i);
            for (int what = TELL_ZONE; what <= TELL_REFUSALS; what++) {
                sum = addTo(sum, badge.tell(what));
            }
        }
        return sum;
    }

    // ---- looking up and checking

    private static boolean isWithin(int number, int least, int most) {
        return number >= least && number <= most;
    }

    private Zone zoneAt(int number) {
        if (number < 0 || number >= zones.size()) {
            throw new IndexOutOfBoundsException("no such zone");
        }
        return zones.get(number);
    }

    private Door doorAt(int number) {
        if (number < 0 || number >= doors.size()) {
            throw new IndexOutOfBoundsException("no such door");
        }
        return doors.get(number);
    }

    private Badge badgeAt(int number) {
        if (number < 0 || number >= badges.size()) {
            throw new IndexOutOfBoundsException("no such badge");
        }
        return badges.get(number);
    }

    private static void checkZone(int capacity, int begin, int end) {
        if (!isWithin(capacity, 1, MOST_CAPACITY)) {
            throw new IllegalArgumentException("capacity is not 1 to 20");
        }
        if (!isWithin(begin, 0, DAY - 1) || !isWithin(end, 0, DAY) || begin == end) {
            throw new IllegalArgumentException("not hours of a day");
        }
    }

    private static void checkRights(int rights) {
        if (!isWithin(rights, 0, ALL_RIGHTS)) {
            throw new IllegalArgumentException("rights are not 0 to 255");
        }
    }

    private int keepBadge(Badge host, int rights) {
        int number = badges.size();
        if (number >= MOST_BADGES) {
            throw new IllegalStateException("no more badges");
        }
        badges.add(new Badge(number, host, rights, outside));
        return number;
    }

    private static long addTo(long sum, int number) {
        return sum * DIGEST_FACTOR + number;
    }

    // ---- who is in a zone

    private int badgesIn(Zone zone) {
        int set = 0;
        for (int i = 0; i < badges.size(); i++) {
            if (badges.get(i).stay.zone == zone) {
                set |= 1 << i;
            }
        }
        return set;
    }

    private int countIn(Zone zone) {
        return Integer.bitCount(badgesIn(zone));
    }

    // ---- requests

    private int answerTo(Badge badge, Door door) {
        if (badge.isBlocked) {
            return BLOCKED;
        }
        Zone goal = door.otherSide(badge.stay.zone);
        if (goal == null) {
            return NOT_AT_THE_DOOR;
        }
        return isAlarm ? answerInAlarm(badge, goal) : answerInPeace(badge, door, goal);
    }

    private int answerInPeace(Badge badge, Door door, Zone goal) {
        if (!badge.hasRightFor(goal)) {
            return NO_RIGHT;
        }
        if (!goal.hasHoursAt(minute)) {
            return NOT_OPEN;
        }
        if (countIn(goal) >= goal.capacity) {
            return FULL;
        }
        if (isExcluded(door)) {
            return EXCLUDED;
        }
        if (badge.wouldLackHost(goal, outside)) {
            return WITHOUT_HOST;
        }
        if (wouldLeaveVisitor(badge)) {
            return LEAVES_VISITOR;
        }
        return MAY_PASS;
    }

    private int answerInAlarm(Badge badge, Zone goal) {
        measureDistances();
        if (goal.doorsLeft >= badge.stay.zone.doorsLeft) {
            return NOT_NEARER;
        }
        if (badge.wouldLackHost(goal, outside)) {
            return WITHOUT_HOST;
        }
        return MAY_PASS;
    }

    private boolean isExcluded(Door door) {
        for (int i = 0; i < doors.size(); i++) {
            Door other = doors.get(i);
            if (other.excludes(door) && other.minutesLeft(minute) > 0) {
                return true;
            }
        }
        return false;
    }

    private boolean wouldLeaveVisitor(Badge host) {
        Zone zone = host.stay.zone;
        if (zone == outside) {
            return false;
        }
        for (int i = 0; i < badges.size(); i++) {
            Badge visitor = badges.get(i);
            if (visitor.host == host && visitor.stay.zone == zone) {
                return true;
            }
        }
        return false;
    }

    private void pass(Badge badge, Door door) {
        Zone goal = door.otherSide(badge.stay.zone);
        if (goal == null) {
            return;
        }
        badge.enter(goal, minute);
        badge.refusals = 0;
        door.openAt(minute);
    }

    // ---- measuring ways

    /** Leaves in each zone its distance: rights and hours do not matter for it. */
    private void measureDistances() {
        for (int i = 0; i < zones.size(); i++) {
            zones.get(i).isOnTheWay = true;
        }
        measureTo(outside);
    }

    /** Leaves in each zone how many doors the badge would need from there to the target. */
    private void measureWays(Badge badge, Zone target) {
        for (int i = 0; i < zones.size(); i++) {
            Zone zone = zones.get(i);
            zone.isOnTheWay = zone.hasHoursAt(minute) && badge.hasRightFor(zone);
        }
        measureTo(target);
    }

    private void measureTo(Zone target) {
        for (int i = 0; i < zones.size(); i++) {
            zones.get(i).doorsLeft = NO_WAY;
        }
        target.doorsLeft = 0;
        for (int doorsLeft = 0; doorsLeft < zones.size(); doorsLeft++) {
            for (int i = 0; i < doors.size(); i++) {
                doors.get(i).measureBack(doorsLeft);
            }
        }
    }

    /** The smallest door by which the measured way from the zone begins. */
    private int firstDoorFrom(Zone zone) {
        if (zone.doorsLeft <= 0) {
            return NO_DOOR;
        }
        for (int i = 0; i < doors.size(); i++) {
            Zone entered = doors.get(i).otherSide(zone);
            if (entered != null && entered.isOnTheWay && entered.doorsLeft == zone.doorsLeft - 1) {
                return i;
            }
        }
        return NO_DOOR;
    }

    private static final class Zone {
        final int number;
        int capacity;
        int begin;
        int end;

        // These two hold only what was measured last; no answer is kept in them from call to call.
        boolean isOnTheWay = false;
        int doorsLeft = NO_WAY;

        Zone(int number, int capacity, int begin, int end) {
            this.number = number;
            this.capacity = capacity;
            this.begin = begin;
            this.end = end;
        }

        boolean hasHoursAt(int minute) {
            int minuteOfDay = minute % DAY;
            if (end < begin) {
                return minuteOfDay >= begin || minuteOfDay < end;
            }
            return minuteOfDay >= begin && minuteOfDay < end;
        }
    }

    private static final class Door {
        final Zone sideA;
        final Zone sideB;
        final int hold;
        final int lock;
        int openUntil = 0;

        Door(Zone sideA, Zone sideB, int hold, int lock) {
            this.sideA = sideA;
            this.sideB = sideB;
            this.hold = hold;
            this.lock = lock;
        }

        /** Null if the zone is none of the sides. */
        Zone otherSide(Zone zone) {
            if (zone == sideA) {
                return sideB;
            }
            return zone == sideB ? sideA : null;
        }

        void openAt(int minute) {
            openUntil = minute + hold;
        }

        int minutesLeft(int minute) {
            return Math.max(0, openUntil - minute);
        }

        boolean excludes(Door other) {
            return this != other && lock != 0 && lock == other.lock;
        }

        void measureBack(int doorsLeft) {
            measureFrom(sideA, sideB, doorsLeft);
            measureFrom(sideB, sideA, doorsLeft);
        }

        private static void measureFrom(Zone entered, Zone left, int doorsLeft) {
            if (entered.isOnTheWay && entered.doorsLeft == doorsLeft && left.doorsLeft == NO_WAY) {
                left.doorsLeft = doorsLeft + 1;
            }
        }
    }

    private static final class Stay {
        Zone zone;
        final int since;

        Stay(Zone zone, int since) {
            this.zone = zone;
            this.since = since;
        }
    }

    private static final class Badge {
        final int number;
        // Null for a badge of the staff.
        final Badge host;
        final ArrayList<Stay> stays = new ArrayList<Stay>();
        // The last of the stays: it goes on.
        Stay stay;
        int ownRights;
        boolean isBlocked = false;
        int refusals = 0;

        Badge(int number, Badge host, int ownRights, Zone first) {
            this.number = number;
            this.host = host;
            this.ownRights = ownRights;
            this.stay = new Stay(first, 0);
            this.stays.add(this.stay);
        }

        int rightsNow() {
            return host == null ? ownRights : host.ownRights;
        }

        boolean hasRightFor(Zone zone) {
            return zone.number == 0 || (rightsNow() >> zone.number & 1) == 1;
        }

        int tell(int what) {
            switch (what) {
                case TELL_ZONE:
                    return stay.zone.number;
                case TELL_RIGHTS:
                    return rightsNow();
                case TELL_HOST:
                    return host == null ? NO_HOST : host.number;
                case TELL_BLOCKED:
                    return isBlocked ? 1 : 0;
                default:
                    return refusals;
            }
        }

        void countRefusal() {
            refusals++;
            if (refusals >= REFUSALS_THAT_BLOCK) {
                isBlocked = true;
            }
        }

        /** Only the zone at the end of a minute is remembered, so a stay that began in this minute is replaced. */
        void enter(Zone zone, int minute) {
            if (stay.since == minute || stays.size() >= MOST_STAYS) {
                stay.zone = zone;
                return;
            }
            stay = new Stay(zone, minute);
            stays.add(stay);
        }

        boolean isAlone(Zone outside) {
            return host != null && stay.zone != outside && stay.zone != host.stay.zone;
        }

        boolean wouldLackHost(Zone goal, Zone outside) {
            if (host == null || goal == outside) {
                return false;
            }
            Zone hostZone = host.stay.zone;
            return hostZone != stay.zone && hostZone != goal;
        }

        Zone zoneAtEndOf(int minute) {
            for (int i = stays.size() - 1; i >= 0; i--) {
                Stay past = stays.get(i);
                if (past.since <= minute) {
                    return past.zone;
                }
            }
            return stay.zone;
        }

        int minutesSpent(Zone zone, int now) {
            int minutes = 0;
            int until = now;
            for (int i = stays.size() - 1; i >= 0; i--) {
                Stay past = stays.get(i);
                if (past.zone == zone) {
                    minutes += until - past.since;
                }
                until = past.since;
            }
            return minutes;
        }
    }
}
