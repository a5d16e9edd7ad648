/**
 * A house in which each reason against a request holds or not, each for itself. The badge that asks is in zone 1, its
 * goal is zone 2; a set of reasons is the sum of the powers 2^k of their answers k.
 */
final class Reasons {
    static final int[] IN_ORDER = {8, 1, 2, 3, 4, 5, 6, 7};
    static final int[] IN_ORDER_IN_ALARM = {8, 1, 9, 6};
    static final int HOLD = 3;

    private static final int HOST = 0;
    private static final int VISITOR = 1;
    private static final int OTHER = 2;

    private static final int WAY_IN = 0;
    private static final int ASKED = 1;
    private static final int EXCLUDING = 2;
    private static final int ELSEWHERE = 3;

    final BadgeZones x = new BadgeZones();
    final int badge;
    final int door;
    private final int reasons;

    Reasons(boolean isVisitor, boolean isAlarm, int reasons) {
        this.reasons = reasons;
        this.badge = isVisitor ? VISITOR : HOST;
        this.door = has(1) ? ELSEWHERE : ASKED;
        build();
        if (isVisitor) {
            comeTogether();
            x.request(HOST, has(6) ? WAY_IN : ASKED);
        } else {
            comeAsHost();
        }
        x.tick(HOLD);
        x.request(OTHER, has(5) ? EXCLUDING : WAY_IN);
        setWhatIsLeft();
        x.alarm(isAlarm);
    }

    private boolean has(int reason) {
        return (reasons >> reason & 1) == 1;
    }

    private void build() {
        x.addZone(20, 0, 1440);
        x.addZone(20, 0, 1440);
        x.addDoor(0, 2, 0, 0);
        x.addDoor(2, 1, HOLD, 1);
        x.addDoor(0, 2, 9, 1);
        x.addDoor(2, 0, HOLD, 1);
        x.addBadge(6);
        x.addVisitor(HOST);
        x.addBadge(6);
        x.tick(700);
    }

    /** The visitor is in zone 1 then, its host in zone 2. */
    private void comeTogether() {
        x.request(VISITOR, WAY_IN);
        x.request(HOST, WAY_IN);
        x.request(VISITOR, ASKED);
    }

    private void comeAsHost() {
        if (has(7)) {
            comeTogether();
            x.request(HOST, ASKED);
        } else {
            x.request(HOST, WAY_IN);
            x.request(HOST, ASKED);
        }
    }

    private void setWhatIsLeft() {
        int now = x.now();
        int inGoal = Integer.bitCount(x.inside(2));
        x.setZone(2, has(4) ? inGoal : inGoal + 1, has(3) ? now - 1 : now, has(3) ? now : now + 1);
        x.setRights(HOST, has(2) ? 2 : 4);
        if (has(9)) {
            // Zone 1 is as near to zone 0 as the goal is then.
            x.addDoor(1, 0, 0, 0);
        }
        if (has(8)) {
            x.block(badge, true);
        }
    }

    /** The first of the reasons that holds, 0 if none does. */
    int first(int[] inOrder) {
        for (int reason : inOrder) {
            if (has(reason)) {
                return reason;
            }
        }
        return 0;
    }

    int ask() {
        return x.request(badge, door);
    }

    int told(int what) {
        return x.badge(badge, what);
    }
}
