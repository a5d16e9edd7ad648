/**
 * The document's promises once more, in another way than BadgeZones: every minute is written down, and
 * ways are tried one by one. A call answers a text; that of an exception is throws. and its name.
 */
final class Model {
    private static final String BOUNDS = "throws.IndexOutOfBoundsException";
    private static final String ARGUMENT = "throws.IllegalArgumentException";
    private static final String STATE = "throws.IllegalStateException";
    private static final int MINUTES = 100000;

    int now = 0;
    boolean alarm = false;
    int zones = 1;
    int doors = 0;
    int badges = 0;
    final int[] capacity = new int[8];
    final boolean[][] openInDay = new boolean[8][1440];
    final int[][] side = new int[12][2];
    final int[] hold = new int[12];
    final int[] lock = new int[12];
    final boolean[][] doorOpen = new boolean[12][MINUTES + 10];
    final int[] rights = new int[10];
    final int[] host = new int[10];
    final boolean[] blocked = new boolean[10];
    final int[] refusals = new int[10];
    final int[] zoneOf = new int[10];
    final byte[][] was = new byte[10][MINUTES];

    // What the last search for ways has found.
    private int bestLength;
    private int bestFirst;

    private static boolean badZone(int cap, int begin, int end) {
        return cap < 1 || cap > 20 || begin < 0 || begin > 1439 || end < 0 || end > 1440 || begin == end;
    }

    private void writeZone(int zone, int cap, int begin, int end) {
        capacity[zone] = cap;
        for (int m = 0; m < 1440; m++) {
            openInDay[zone][m] = begin < end ? begin <= m && m < end : !(end <= m && m < begin);
        }
    }

    private boolean noZone(int zone) {
        return zone < 0 || zone >= zones;
    }

    private boolean noDoor(int door) {
        return door < 0 || door >= doors;
    }

    private boolean noBadge(int badge) {
        return badge < 0 || badge >= badges;
    }

    private boolean open(int zone) {
        return zone == 0 || openInDay[zone][now % 1440];
    }

    private boolean right(int badge, int zone) {
        int owner = host[badge] < 0 ? badge : host[badge];
        return zone == 0 || (rights[owner] / (1 << zone)) % 2 == 1;
    }

    String addZone(int cap, int begin, int end) {
        if (badZone(cap, begin, end)) {
            return ARGUMENT;
        }
        if (zones == 8) {
            return STATE;
        }
        writeZone(zones, cap, begin, end);
        return "" + zones++;
    }

    String setZone(int zone, int cap, int begin, int end) {
        if (noZone(zone) || zone == 0) {
            return BOUNDS;
        }
        if (badZone(cap, begin, end)) {
            return ARGUMENT;
        }
        writeZone(zone, cap, begin, end);
        return "" + Integer.bitCount(set(zone));
    }

    String addDoor(int a, int b, int holding, int locking) {
        if (noZone(a) || noZone(b)) {
            return BOUNDS;
        }
        if (a == b || holding < 0 || holding > 9 || locking < 0 || locking > 3) {
            return ARGUMENT;
        }
        if (doors == 12) {
            return STATE;
        }
        side[doors] = new int[] {a, b};
        hold[doors] = holding;
        lock[doors] = locking;
        return "" + doors++;
    }

    private int away(int zone) {
        int[][] d = new int[zones][zones];
        for (int[] row : d) {
            java.util.Arrays.fill(row, 1000);
        }
        for (int i = 0; i < doors; i++) {
            d[side[i][0]][side[i][1]] = 1;
            d[side[i][1]][side[i][0]] = 1;
        }
        for (int k = 0; k < zones; k++) {
            d[k][k] = 0;
            for (int i = 0; i < zones; i++) {
                for (int j = 0; j < zones; j++) {
                    d[i][j] = Math.min(d[i][j], d[i][k] + d[k][j]);
                }
            }
        }
        return zone == 0 ? 0 : d[zone][0] >= 1000 ? -1 : d[zone][0];
    }

    String distance(int zone) {
        return noZone(zone) ? BOUNDS : "" + away(zone);
    }

    String isOpen(int zone) {
        return noZone(zone) ? BOUNDS : "" + open(zone);
    }

    private int left(int door) {
        int n = 0;
        while (doorOpen[door][now + n]) {
            n++;
        }
        return n;
    }

    String openFor(int door) {
        return noDoor(door) ? BOUNDS : "" + left(door);
    }

    private String newBadge(int hostBadge, int itsRights) {
        if (badges == 10) {
            return STATE;
        }
        host[badges] = hostBadge;
        rights[badges] = itsRights;
        return "" + badges++;
    }

    String addBadge(int itsRights) {
        return itsRights < 0 || itsRights > 255 ? ARGUMENT : newBadge(-1, itsRights);
    }

    String addVisitor(int hostBadge) {
        if (noBadge(hostBadge)) {
            return BOUNDS;
        }
        return host[hostBadge] >= 0 ? ARGUMENT : newBadge(hostBadge, 0);
    }

    String setRights(int badge, int itsRights) {
        if (noBadge(badge)) {
            return BOUNDS;
        }
        if (itsRights < 0 || itsRights > 255) {
            return ARGUMENT;
        }
        if (host[badge] >= 0) {
            return STATE;
        }
        int before = rights[badge];
        rights[badge] = itsRights;
        return "" + before;
    }

    String block(int badge, boolean isBlocked) {
        if (noBadge(badge)) {
            return BOUNDS;
        }
        boolean before = blocked[badge];
        blocked[badge] = isBlocked;
        refusals[badge] = 0;
        return "" + before;
    }

    private int[] told(int badge) {
        int owner = host[badge] < 0 ? badge : host[badge];
        return new int[] {zoneOf[badge], rights[owner], host[badge], blocked[badge] ? 1 : 0, refusals[badge]};
    }

    String badge(int badge, int what) {
        return noBadge(badge) || what < 0 || what > 4 ? BOUNDS : "" + told(badge)[what];
    }

    String tick(int minutes) {
        if (minutes < 1 || minutes > 2000) {
            return ARGUMENT;
        }
        if (now + minutes > 99999) {
            return STATE;
        }
        for (int m = 0; m < minutes; m++) {
            for (int badge = 0; badge < 10; badge++) {
                was[badge][now] = (byte) zoneOf[badge];
            }
            now++;
        }
        return "" + now;
    }

    String alarm(boolean isOn) {
        boolean before = alarm;
        alarm = isOn;
        return "" + before;
    }

    int goalOf(int badge, int door) {
        int zone = zoneOf[badge];
        return side[door][0] == zone ? side[door][1] : side[door][1] == zone ? side[door][0] : -1;
    }

    private boolean excluded(int door) {
        for (int other = 0; other < doors; other++) {
            if (other != door && lock[door] > 0 && lock[other] == lock[door] && left(other) > 0) {
                return true;
            }
        }
        return false;
    }

    private boolean leavesVisitor(int badge) {
        for (int visitor = 0; visitor < badges; visitor++) {
            if (host[visitor] == badge && zoneOf[visitor] == zoneOf[badge]) {
                return zoneOf[badge] != 0;
            }
        }
        return false;
    }

    int answer(int badge, int door) {
        int goal = goalOf(badge, door);
        int hostZone = host[badge] < 0 ? -1 : zoneOf[host[badge]];
        boolean[] reason = new boolean[10];
        reason[8] = blocked[badge];
        reason[1] = goal < 0;
        if (goal >= 0) {
            reason[2] = !alarm && !right(badge, goal);
            reason[3] = !alarm && !open(goal);
            reason[4] = !alarm && goal != 0 && Integer.bitCount(set(goal)) >= capacity[goal];
            reason[5] = !alarm && excluded(door);
            reason[9] = alarm && away(goal) >= away(zoneOf[badge]);
            reason[6] = host[badge] >= 0 && goal != 0 && hostZone != zoneOf[badge] && hostZone != goal;
            reason[7] = !alarm && leavesVisitor(badge);
        }
        for (int r : new int[] {8, 1, 2, 3, 4, 5, 9, 6, 7}) {
            if (reason[r]) {
                return r;
            }
        }
        return 0;
    }

    String wouldBe(int badge, int door) {
        return noBadge(badge) || noDoor(door) ? BOUNDS : "" + answer(badge, door);
    }

    String request(int badge, int door) {
        if (noBadge(badge) || noDoor(door)) {
            return BOUNDS;
        }
        int answer = answer(badge, door);
        if (answer == 0) {
            zoneOf[badge] = goalOf(badge, door);
            refusals[badge] = 0;
            for (int m = 0; m < hold[door]; m++) {
                doorOpen[door][now + m] = true;
            }
        } else if (answer != 8) {
            refusals[badge]++;
            blocked[badge] = refusals[badge] == 3;
        }
        return "" + answer;
    }

    String now() {
        return "" + now;
    }

    private int set(int zone) {
        int set = 0;
        for (int badge = 0; badge < badges; badge++) {
            set += zoneOf[badge] == zone ? 1 << badge : 0;
        }
        return set;
    }

    String inside(int zone) {
        return noZone(zone) ? BOUNDS : "" + set(zone);
    }

    String alone() {
        int set = 0;
        for (int badge = 0; badge < badges; badge++) {
            if (host[badge] >= 0 && zoneOf[badge] != 0 && zoneOf[badge] != zoneOf[host[badge]]) {
                set += 1 << badge;
            }
        }
        return "" + set;
    }

    String wasIn(int badge, int minute) {
        if (noBadge(badge)) {
            return BOUNDS;
        }
        if (minute < 0 || minute > now) {
            return ARGUMENT;
        }
        return "" + (minute == now ? zoneOf[badge] : was[badge][minute]);
    }

    String minutesIn(int badge, int zone) {
        if (noBadge(badge) || noZone(zone)) {
            return BOUNDS;
        }
        int minutes = 0;
        for (int m = 0; m < now; m++) {
            minutes += was[badge][m] == zone ? 1 : 0;
        }
        return "" + minutes;
    }

    String presence() {
        double away = badges - Integer.bitCount(set(0));
        return "" + (badges == 0 ? 0.0 : away / badges);
    }

    private void walk(int badge, int zone, int target, int seen, int length, int first) {
        if (zone == target) {
            if (bestLength < 0 || length < bestLength || length == bestLength && first < bestFirst) {
                bestLength = length;
                bestFirst = first;
            }
            return;
        }
        for (int door = 0; door < doors; door++) {
            for (int s = 0; s < 2; s++) {
                int entered = side[door][1 - s];
                if (side[door][s] == zone && (seen >> entered) % 2 == 0 && open(entered) && right(badge, entered)) {
                    walk(badge, entered, target, seen | 1 << entered, length + 1, length == 0 ? door : first);
                }
            }
        }
    }

    private void search(int badge, int zone) {
        bestLength = -1;
        bestFirst = -1;
        walk(badge, zoneOf[badge], zone, 1 << zoneOf[badge], 0, -1);
    }

    String way(int badge, int zone) {
        if (noBadge(badge) || noZone(zone)) {
            return BOUNDS;
        }
        search(badge, zone);
        return "" + bestLength;
    }

    String next(int badge, int zone) {
        if (noBadge(badge) || noZone(zone)) {
            return BOUNDS;
        }
        search(badge, zone);
        return "" + bestFirst;
    }

    String canCome(int zone) {
        if (noZone(zone)) {
            return BOUNDS;
        }
        int set = 0;
        for (int badge = 0; badge < badges; badge++) {
            search(badge, zone);
            set += bestLength >= 0 ? 1 << badge : 0;
        }
        return "" + set;
    }

    String digest() {
        java.util.List<Integer> numbers = new java.util.ArrayList<>(java.util.List.of(now, alarm ? 1 : 0, zones));
        for (int zone = 0; zone < zones; zone++) {
            numbers.add(open(zone) ? 1 : 0);
            numbers.add(set(zone));
        }
        numbers.add(doors);
        for (int door = 0; door < doors; door++) {
            numbers.add(left(door));
        }
        numbers.add(badges);
        for (int badge = 0; badge < badges; badge++) {
            for (int x : told(badge)) {
                numbers.add(x);
            }
        }
        long d = 179;
        for (int x : numbers) {
            d = d * 31 + x;
        }
        return "" + d;
    }
}
