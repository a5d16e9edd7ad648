/** Tells all that can be seen of an object, and of what it does next, in fewer than the calls that it has. */
final class Picture {
    private final BadgeZones x;
    private final StringBuilder text = new StringBuilder();
    private final int zones;
    private final int doors;
    private final int badges;

    private Picture(BadgeZones x) {
        this.x = x;
        this.zones = countUpTo(8, 0);
        this.doors = countUpTo(12, 1);
        this.badges = countUpTo(10, 2);
    }

    /** Changes the object: it is asked to go on. */
    static String withFuture(BadgeZones x) {
        Picture picture = new Picture(x);
        picture.tellNow();
        picture.tellPast();
        picture.tellRoom();
        picture.tellHours();
        return picture.text.toString();
    }

    private int countUpTo(int most, int kind) {
        int number = 0;
        while (number < most && isThere(number, kind)) {
            number++;
        }
        return number;
    }

    private boolean isThere(int number, int kind) {
        try {
            switch (kind) {
                case 0 -> x.isOpen(number);
                case 1 -> x.openFor(number);
                default -> x.badge(number, 0);
            }
            return true;
        } catch (IndexOutOfBoundsException e) {
            return false;
        }
    }

    private void tell(String what, Object answer) {
        text.append(what).append('=').append(answer).append(' ');
    }

    private void tellNow() {
        tell("now", x.now());
        tell("digest", x.digest());
        tell("alone", x.alone());
        tell("presence", x.presence());
        for (int zone = 0; zone < zones; zone++) {
            tell("distance", x.distance(zone));
            tell("canCome", x.canCome(zone));
        }
    }

    private void tellPast() {
        for (int badge = 0; badge < badges; badge++) {
            tell("was", x.wasIn(badge, 0));
            tell("is", x.wasIn(badge, x.now()));
            tell("minutes", x.minutesIn(badge, 0));
            tell("minutes", x.minutesIn(badge, zones - 1));
        }
    }

    private void tellRoom() {
        for (int badge = 0; badge < badges; badge++) {
            x.block(badge, false);
            for (int door = 0; door < doors; door++) {
                tell("request", x.request(badge, door));
            }
        }
        tell("digest", x.digest());
    }

    private void tellHours() {
        for (int hour = 0; hour < 24; hour++) {
            tell("digest", x.digest());
            try {
                tell("tick", x.tick(60));
            } catch (IllegalStateException e) {
                tell("tick", "too late");
            }
        }
        tell("alarm", x.alarm(true));
    }
}
