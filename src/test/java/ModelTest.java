import java.util.Random;
import java.util.function.Supplier;

/** Long runs of calls, the same ones each time, answered by BadgeZones and by the Model. */
public final class ModelTest {
    private static final int RUNS = 400;
    private static final int CALLS = 512;
    private static final int[] FAR = {-1, Integer.MIN_VALUE, Integer.MAX_VALUE, 256, 1441, 1440, 2001, 0, 12, 10, 8, 21};

    private final Random random;
    private final BadgeZones x = new BadgeZones();
    private final Model model = new Model();
    private final boolean slow;
    private final boolean wide;
    private final int run;

    private ModelTest(int run) {
        this.run = run;
        this.random = new Random(run);
        this.slow = run % 4 == 1;
        this.wide = run % 3 != 0;
    }

    public static void main(String[] args) {
        int[] seen = new int[10];
        for (int run = 0; run < RUNS; run++) {
            new ModelTest(run).play(seen);
        }
        for (int answer = 0; answer < seen.length; answer++) {
            Check.is("requests answered " + answer + " are many", seen[answer] >= 200, true);
        }
        Check.done("ModelTest");
    }

    private void play(int[] seen) {
        int setUp = 15 + random.nextInt(25);
        for (int call = 0; call < CALLS; call++) {
            if (call < setUp) {
                build();
            } else {
                go(seen);
            }
        }
    }

    /** The text of the answer, as the Model writes it. */
    private static String textOf(Supplier<Object> call) {
        try {
            return "" + call.get();
        } catch (RuntimeException e) {
            return "throws." + e.getClass().getSimpleName();
        }
    }

    private String same(String call, Supplier<Object> got, String due) {
        Check.is("run " + run + ": " + call, textOf(got), due);
        return due;
    }

    /** Mostly a number from 0 to most - 1, now and then another. */
    private int some(int most) {
        if (random.nextInt(40) == 0) {
            return FAR[random.nextInt(FAR.length)];
        }
        if (random.nextInt(40) == 0) {
            return most;
        }
        return random.nextInt(Math.max(1, most));
    }

    private int zone() {
        return some(model.zones);
    }

    private int door() {
        return some(model.doors);
    }

    private int badge() {
        return some(model.badges);
    }

    private int rights() {
        return random.nextInt(3) > 0 ? 255 - (1 << random.nextInt(8)) * random.nextInt(2) : some(256);
    }

    private int[] hours() {
        int nowInDay = model.now % 1440;
        switch (random.nextInt(6)) {
            case 0: return new int[] {some(1440), some(1441)};
            case 1: return new int[] {nowInDay, Math.min(1440, nowInDay + 1 + random.nextInt(30))};
            case 2: return new int[] {Math.max(0, nowInDay - 5), Math.max(0, nowInDay - random.nextInt(10))};
            default: return new int[] {0, 1440};
        }
    }

    private int capacity() {
        return random.nextInt(30) == 0 ? some(22) : 1 + random.nextInt(wide ? 20 : 3);
    }

    private void build() {
        switch (random.nextInt(3)) {
            case 0 -> addZone();
            case 1 -> addDoor();
            default -> addBadge();
        }
    }

    private void addZone() {
        int c = capacity();
        int[] h = hours();
        same("addZone(" + c + ", " + h[0] + ", " + h[1] + ")", () -> x.addZone(c, h[0], h[1]), model.addZone(c, h[0], h[1]));
    }

    private void setZone() {
        int z = zone();
        int c = capacity();
        int[] h = hours();
        same("setZone(" + z + ", " + c + ", " + h[0] + ", " + h[1] + ")", () -> x.setZone(z, c, h[0], h[1]),
            model.setZone(z, c, h[0], h[1]));
    }

    private void addDoor() {
        int a = zone();
        int b = zone();
        int h = some(10);
        int l = some(4);
        same("addDoor(" + a + ", " + b + ", " + h + ", " + l + ")", () -> x.addDoor(a, b, h, l), model.addDoor(a, b, h, l));
    }

    private void addBadge() {
        int r = rights();
        int h = badge();
        if (random.nextBoolean()) {
            same("addBadge(" + r + ")", () -> x.addBadge(r), model.addBadge(r));
        } else {
            same("addVisitor(" + h + ")", () -> x.addVisitor(h), model.addVisitor(h));
        }
    }

    private void go(int[] seen) {
        int kind = random.nextInt(100);
        if (kind < 45) {
            ask(seen);
        } else if (kind < 58) {
            tick();
        } else if (kind < 72) {
            change();
        } else {
            look();
        }
    }

    /** Mostly at a door of the zone in which the badge is. */
    private void ask(int[] seen) {
        int b = badge();
        int d = door();
        for (int i = 0; i < 6 && b >= 0 && b < model.badges && d >= 0 && d < model.doors && model.goalOf(b, d) < 0; i++) {
            d = door();
        }
        int chosen = d;
        if (random.nextInt(5) == 0) {
            same("wouldBe(" + b + ", " + d + ")", () -> x.wouldBe(b, chosen), model.wouldBe(b, chosen));
        }
        String answer = same("request(" + b + ", " + d + ")", () -> x.request(b, chosen), model.request(b, chosen));
        if (answer.length() == 1) {
            seen[answer.charAt(0) - '0']++;
        }
        if (answer.equals("8") && random.nextInt(3) > 0) {
            same("block(" + b + ", false)", () -> x.block(b, false), model.block(b, false));
        }
    }

    private void tick() {
        int m = random.nextInt(8) == 0 ? some(2001) : 1 + random.nextInt(slow ? 4 : 60);
        same("tick(" + m + ")", () -> x.tick(m), model.tick(m));
    }

    private void change() {
        boolean is = random.nextInt(3) == 0;
        int b = badge();
        int r = rights();
        switch (random.nextInt(6)) {
            case 0 -> setZone();
            case 1 -> same("block(" + b + ", " + is + ")", () -> x.block(b, is), model.block(b, is));
            case 2 -> same("setRights(" + b + ", " + r + ")", () -> x.setRights(b, r), model.setRights(b, r));
            case 3 -> same("alarm(" + is + ")", () -> x.alarm(is), model.alarm(is));
            case 4 -> build();
            default -> same("block(" + b + ", false)", () -> x.block(b, false), model.block(b, false));
        }
    }

    private void look() {
        int b = badge();
        int z = zone();
        int d = door();
        int w = some(5);
        int m = random.nextInt(10) == 0 ? some(100000) : some(model.now + 1);
        switch (random.nextInt(14)) {
            case 0 -> same("distance(" + z + ")", () -> x.distance(z), model.distance(z));
            case 1 -> same("isOpen(" + z + ")", () -> x.isOpen(z), model.isOpen(z));
            case 2 -> same("openFor(" + d + ")", () -> x.openFor(d), model.openFor(d));
            case 3 -> same("badge(" + b + ", " + w + ")", () -> x.badge(b, w), model.badge(b, w));
            case 4 -> same("now()", () -> x.now(), model.now());
            case 5 -> same("inside(" + z + ")", () -> x.inside(z), model.inside(z));
            case 6 -> same("alone()", () -> x.alone(), model.alone());
            case 7 -> same("wasIn(" + b + ", " + m + ")", () -> x.wasIn(b, m), model.wasIn(b, m));
            case 8 -> same("minutesIn(" + b + ", " + z + ")", () -> x.minutesIn(b, z), model.minutesIn(b, z));
            case 9 -> same("presence()", () -> x.presence(), model.presence());
            case 10 -> same("way(" + b + ", " + z + ")", () -> x.way(b, z), model.way(b, z));
            case 11 -> same("next(" + b + ", " + z + ")", () -> x.next(b, z), model.next(b, z));
            case 12 -> same("canCome(" + z + ")", () -> x.canCome(z), model.canCome(z));
            default -> same("digest()", () -> x.digest(), model.digest());
        }
    }
}
