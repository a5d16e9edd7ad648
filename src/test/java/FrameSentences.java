import java.util.ArrayList;
import java.util.Collections;
import java.util.List;
import java.util.Random;
import java.util.function.Function;

/** What stands ahead of the Description and behind the promises: a test for each sentence. */
final class FrameSentences {
    private static final String FIRST = "What it is";
    private static final String LAST = "Not promised";
    private static final int CALLS = 512;

    private FrameSentences() {
    }

    static void test() {
        zonesDoorsAndBadges();
        rightsHoursAndRoom();
        Document.part(FIRST, "a badge must be where it was seen last, some doors never stand open at the same time, "
            + "visitors go with their hosts, and in an alarm everybody can only go out");
        whereItWasSeenLast();
        neverOpenTogether();
        visitorsWithTheirHosts();
        outInAlarm();
        whoWasWhere();
        lastCall();
        laterCalls();
        free();
        objectsInThreads();
        nothingBeyond();
    }

    private static void zonesDoorsAndBadges() {
        Document.part(FIRST, "A control of badges in a house of zones");
        BadgeZones x = Sample.full();
        Check.is("ten badges in zone 0", x.inside(0), 1023);
        for (int zone = 1; zone < 8; zone++) {
            Check.is("zone " + zone, x.inside(zone), 0);
        }
        for (int door = 0; door < 12; door++) {
            Check.is("door " + door, x.openFor(door), 0);
        }
    }

    private static void rightsHoursAndRoom() {
        Document.part(FIRST, "Doors between zones open for badges that have the right to go on, within hours and while there is room");
        for (int has = 0; has < 8; has++) {
            BadgeZones x = Sample.hall(1, 2);
            int door = x.addDoor(0, 1, 1, 0);
            if ((has & 1) == 0) {
                x.setRights(0, 255 - 2);
            }
            if ((has & 2) == 0) {
                x.request(1, 0);
            }
            if ((has & 4) == 0) {
                x.setZone(1, 1, 1, 2);
            }
            x.request(0, door);
            Check.is("right 1, room 2, hours 4: of these " + has, x.openFor(door), has == 7 ? 1 : 0);
        }
    }

    /** Door k of the row is between the zones k and k + 1. */
    private static void whereItWasSeenLast() {
        BadgeZones x = Sample.row(7);
        x.addBadge(255);
        for (int zone = 0; zone < 7; zone++) {
            Check.is("it is in zone " + zone, x.inside(zone), 1);
            for (int door = 0; door < 7; door++) {
                int due = door == zone || door == zone - 1 ? 0 : 1;
                Check.is("from zone " + zone + " at door " + door, x.wouldBe(0, door), due);
            }
            x.request(0, zone);
        }
    }

    private static void neverOpenTogether() {
        int answers5 = 0;
        for (int run = 0; run < 40; run++) {
            Random random = new Random(run);
            BadgeZones x = Sample.hall(20, 10);
            for (int door = 1; door < 12; door++) {
                x.addDoor(0, 1, 1 + random.nextInt(9), door % 4);
            }
            for (int round = 0; round < 25; round++) {
                for (int i = 0; i < 2; i++) {
                    int badge = random.nextInt(10);
                    x.block(badge, false);
                    answers5 += x.request(badge, random.nextInt(12)) == 5 ? 1 : 0;
                }
                x.tick(1 + random.nextInt(3));
                oneOfEachLock("run " + run + ", round " + round, x);
            }
        }
        Check.is("some were kept closed", answers5 > 100, true);
    }

    /** The lock of a door is its number modulo 4. */
    private static void oneOfEachLock(String when, BadgeZones x) {
        int[] open = new int[4];
        for (int door = 0; door < 12; door++) {
            open[door % 4] += x.openFor(door) > 0 ? 1 : 0;
        }
        for (int lock = 1; lock < 4; lock++) {
            Check.is(when + ": open doors with lock " + lock + ", at most one", open[lock] <= 1, true);
        }
    }

    /** Each place of a visitor and its host, and each goal, in a house with a door between each two zones. */
    private static void visitorsWithTheirHosts() {
        int[][] door = new int[4][4];
        for (int from = 0; from < 4; from++) {
            for (int host = 0; host < 4; host++) {
                BadgeZones x = fourZones(door);
                x.addBadge(14);
                x.addVisitor(0);
                go(x, 1, door[0][from]);
                go(x, 0, door[0][host]);
                for (int goal = 0; goal < 4; goal++) {
                    if (goal != from) {
                        boolean isWithHost = goal == 0 || host == from || host == goal;
                        String when = "the host in zone " + host + ", from zone " + from + " to " + goal;
                        Check.is(when, x.wouldBe(1, door[from][goal]), isWithHost ? 0 : 6);
                    }
                }
            }
        }
    }

    /** Writes which door is between which zones; none is -1. */
    private static BadgeZones fourZones(int[][] door) {
        BadgeZones x = new BadgeZones();
        for (int zone = 0; zone < 4; zone++) {
            door[zone][zone] = -1;
            if (zone > 0) {
                x.addZone(20, 0, 1440);
            }
            for (int other = 0; other < zone; other++) {
                door[zone][other] = x.addDoor(other, zone, 0, 0);
                door[other][zone] = door[zone][other];
            }
        }
        return x;
    }

    private static void go(BadgeZones x, int badge, int door) {
        if (door >= 0) {
            Check.is("badge " + badge + " passes door " + door, x.request(badge, door), 0);
        }
    }

    /** In an alarm a badge asks at each door again and again: each one that it passes leads nearer to zone 0. */
    private static void outInAlarm() {
        for (int run = 0; run < 60; run++) {
            BadgeZones x = houseByChance(new Random(run));
            walk("run " + run, x, 1 + run % 7);
            x.setRights(0, 0);
            x.alarm(true);
            int left = x.distance(x.badge(0, 0));
            for (int asked = 0; asked < 7 * 12; asked++) {
                x.block(0, false);
                if (x.request(0, asked % 12) == 0) {
                    left--;
                    Check.is("run " + run + ": its distance", x.distance(x.badge(0, 0)), left);
                }
            }
            Check.is("run " + run + ": it is out", x.badge(0, 0), 0);
        }
    }

    private static BadgeZones houseByChance(Random random) {
        BadgeZones x = new BadgeZones();
        for (int zone = 1; zone < 8; zone++) {
            x.addZone(1, 0, 1440);
        }
        for (int door = 0; door < 12; door++) {
            int a = random.nextInt(8);
            x.addDoor(a, (a + 1 + random.nextInt(7)) % 8, 0, 0);
        }
        x.addBadge(255);
        return x;
    }

    /** By the doors that next() names it is there after so many of them as way() tells; answers that number. */
    private static int walk(String when, BadgeZones x, int zone) {
        int way = x.way(0, zone);
        int from = x.badge(0, 0);
        for (int left = way; left > 0; left--) {
            Check.is(when + ": doors left to zone " + zone, x.way(0, zone), left);
            go(x, 0, x.next(0, zone));
        }
        Check.is(when + ": where it is", x.badge(0, 0), way < 0 ? from : zone);
        Check.is(when + ": there is no door on", x.next(0, zone), -1);
        return way;
    }

    private static void whoWasWhere() {
        Document.part(FIRST, "It knows who was where, and the ways that are left");
        for (int run = 0; run < 60; run++) {
            Random random = new Random(run);
            BadgeZones x = houseByChance(random);
            List<Integer> zones = new ArrayList<>();
            int[] minutes = new int[8];
            for (int walked = 0; walked < 12; walked++) {
                String when = "run " + run + ", walk " + walked;
                walk(when, x, random.nextInt(8));
                int zone = x.badge(0, 0);
                int passing = 1 + random.nextInt(9);
                x.tick(passing);
                minutes[zone] += passing;
                zones.addAll(Collections.nCopies(passing, zone));
            }
            for (int minute = 0; minute < zones.size(); minute++) {
                Check.is("run " + run + ", minute " + minute, x.wasIn(0, minute), zones.get(minute));
            }
            for (int zone = 0; zone < 8; zone++) {
                Check.is("run " + run + ", minutes in zone " + zone, x.minutesIn(0, zone), minutes[zone]);
            }
        }
    }

    /** All methods of the face, one a row. */
    private static List<Function<BadgeZones, Object>> allMethods() {
        return List.of(x -> x.addZone(1, 0, 1), x -> x.setZone(1, 1, 0, 1), x -> x.addDoor(1, 3, 1, 1), x -> x.distance(3),
            x -> x.isOpen(1), x -> x.openFor(0), x -> x.addBadge(1), x -> x.addVisitor(1), x -> x.setRights(0, 1),
            x -> x.block(0, true), x -> x.badge(0, 0), x -> x.tick(2000), x -> x.alarm(true), x -> x.request(0, 0),
            x -> x.wouldBe(2, 0), x -> x.now(), x -> x.inside(1), x -> x.alone(), x -> x.wasIn(0, 500),
            x -> x.minutesIn(0, 1), x -> x.presence(), x -> x.way(0, 2), x -> x.next(0, 2), x -> x.canCome(2), x -> x.digest());
    }

    private static void lastCall() {
        Document.part(FIRST, "An object is used for at most 512 calls after it has been made");
        List<Function<BadgeZones, Object>> methods = allMethods();
        Check.is("methods", methods.size(), 25);
        for (int i = 0; i < methods.size(); i++) {
            // 15 calls make the house, each round is two more.
            Object due = methods.get(i).apply(afterRounds(1));
            Check.is("the 512th call, row " + i, methods.get(i).apply(afterRounds((CALLS - 1 - 15) / 2)), due);
        }
    }

    /** Badge 1 goes to zone 2 and back, so often. */
    private static BadgeZones afterRounds(int rounds) {
        BadgeZones x = Sample.houseByDay();
        for (int round = 0; round < rounds; round++) {
            go(x, 1, 2);
            go(x, 1, 2);
        }
        return x;
    }

    /** The answers are free, but the rules of the language go on: a call ends, and the machine throws nothing. */
    private static void laterCalls() {
        Document.part(FIRST, "what later calls answer is free");
        EveryCall.throwOnlyWhatTheFaceNames(0, 40 * CALLS);
        BadgeZones x = Sample.hall(1, 1);
        for (int move = 0; move < 4 * CALLS; move++) {
            x.tick(1);
            x.request(0, 0);
        }
        Check.is("it goes on", x.now(), 4 * CALLS);
    }

    /** Nothing of it is of use: they are those that every object has. */
    private static void free() {
        Document.part(LAST, "How the state is held inside the object is free, as are the speed of each call, the text of toString "
            + "and the behaviour of equals and hashCode");
        for (java.lang.reflect.Method method : BadgeZones.class.getMethods()) {
            boolean isOfEveryObject = method.getDeclaringClass() == Object.class;
            boolean isFree = List.of("toString", "equals", "hashCode").contains(method.getName());
            Check.is(method + " is left as it is", isFree && !isOfEveryObject, false);
        }
    }

    private static void objectsInThreads() {
        Document.part(LAST, "Use of one object from several threads at once is not promised to be safe");
        long due = digestAfterMoves(0);
        long[] got = new long[8];
        Thread[] threads = new Thread[got.length];
        for (int i = 0; i < threads.length; i++) {
            int own = i;
            threads[i] = new Thread(() -> got[own] = digestAfterMoves(own));
            threads[i].start();
        }
        for (int i = 0; i < threads.length; i++) {
            try {
                threads[i].join();
            } catch (InterruptedException e) {
                Check.is("thread " + i + " is waited for", false, true);
            }
            Check.is("an object for each thread: thread " + i, got[i], i == 0 ? due : digestAfterMoves(i));
        }
    }

    private static long digestAfterMoves(int seed) {
        Random random = new Random(seed);
        BadgeZones x = Sample.full();
        long sum = 0;
        for (int call = 0; call < 100; call++) {
            int badge = random.nextInt(10);
            x.block(badge, false);
            sum = sum * 31 + x.request(badge, random.nextInt(12));
            sum = sum * 31 + x.way(badge, random.nextInt(8));
            x.tick(1);
        }
        return sum * 31 + x.digest();
    }

    /** The calls that only tell something change nothing; what throws is tried by all calls with all sorts of numbers. */
    private static void nothingBeyond() {
        Document.part(LAST, "Nothing is promised beyond the answers and state changes described above, "
            + "and nothing about an object after its 512th call");
        BadgeZones x = Sample.houseByDay();
        long before = x.digest();
        for (int zone = 0; zone < 4; zone++) {
            for (int badge = 0; badge < 3; badge++) {
                tellAll(x, zone, badge);
            }
        }
        Check.is("the digest after they are told", x.digest(), before);
        Check.is("what goes on from there", Picture.withFuture(x), Picture.withFuture(Sample.houseByDay()));
        for (int run = 1; run <= 100; run++) {
            EveryCall.throwOnlyWhatTheFaceNames(run, CALLS);
        }
    }

    /** Door and zone have the same number here. */
    private static void tellAll(BadgeZones x, int zone, int badge) {
        x.distance(zone);
        x.isOpen(zone);
        x.openFor(zone);
        x.badge(badge, zone);
        x.wouldBe(badge, zone);
        x.now();
        x.inside(zone);
        x.alone();
        x.wasIn(badge, zone);
        x.minutesIn(badge, zone);
        x.presence();
        x.way(badge, zone);
        x.next(badge, zone);
        x.canCome(zone);
    }
}
