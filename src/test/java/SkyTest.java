/** Promises 10 to 13: hasSun, isOpen, way, first. */
public final class SkyTest {
    /** So many minutes are asked of one object, as nothing is told of its 513th call. */
    private static final int MINUTES = 80;

    public static void main(String[] args) {
        hasSun();
        isOpen();
        ways();
        firstOfSeveral();
        waysOfTheMinute();
        wrongInputs();
        Check.end();
    }

    private static void hasSun() {
        String list = "peak a sun from 10 to 20 mirrors 0;peak b sun from 20 to 10 mirrors 0;"
                + "peak c sun from 15 to 15 mirrors 0;peak d sun from 0 to 120 mirrors 0;peak e sun from 119 to 120 mirrors 0;";
        Heliographs x = null;
        for (int minute = 0; minute <= 9999; minute++) {
            x = minute % MINUTES == 0 ? Check.taught(list) : x;
            int ofDay = minute % 120;
            Check.due("a in " + minute, ofDay >= 10 && ofDay <= 19, x.hasSun(0, minute));
            Check.due("b in " + minute, false, x.hasSun(1, minute));
            Check.due("c in " + minute, false, x.hasSun(2, minute));
            Check.due("d in " + minute, true, x.hasSun(3, minute));
            Check.due("e in " + minute, ofDay == 119, x.hasSun(4, minute));
        }
        x = Check.taught(list);
        Check.due("peaks that have sun in 0", 1, x.count(6));
        x.go(130 - 120);
        Check.due("peaks that have sun in 10", 2, x.count(6));
        x.go(109);
        Check.due("peaks that have sun in 119", 2, x.count(6));
        x.go(11);
        Check.due("peaks that have sun in 130", 2, x.count(6));
    }

    private static void isOpen() {
        String list = "peak a sun from 10 to 30 mirrors 0;peak b sun from 20 to 40 mirrors 0;"
                + "peak c sun from 0 to 120 mirrors 0;pass ab between a and b far 1;pass ac between c and a far 1;"
                + "pass bc between b and c far 1;cloud over ac every 7 for 3 from 5;cloud over ac every 50 for 49 from 0;"
                + "cloud over bc every 59 for 1 from 58;";
        Heliographs x = null;
        for (int minute = 0; minute <= 9999; minute++) {
            x = minute % MINUTES == 0 ? Check.taught(list) : x;
            int ofDay = minute % 120;
            boolean a = ofDay >= 10 && ofDay < 30;
            boolean b = ofDay >= 20 && ofDay < 40;
            boolean cloudy = (minute + 5) % 7 < 3 || minute % 50 < 49;
            Check.due("ab in " + minute, a && b, x.isOpen(0, minute));
            Check.due("ac in " + minute, a && !cloudy, x.isOpen(1, minute));
            Check.due("bc in " + minute, b && minute % 59 != 1, x.isOpen(2, minute));
        }
    }

    private static final String STARS = "peak a sun from 0 to 120 mirrors 1;peak b sun from 0 to 120 mirrors 1;"
            + "peak c sun from 0 to 120 mirrors 1;peak d sun from 0 to 120 mirrors 1;peak e sun from 0 to 120 mirrors 1;";

    private static void ways() {
        Heliographs x = Check.taught(STARS + "pass ad between a and d far 20;pass ab between a and b far 5;"
                + "pass bc between c and b far 6;pass cd between c and d far 8;pass bd between b and d far 15;");
        Check.due("way(a, d)", 19, x.way(0, 3));
        Check.due("first(a, d)", 1, x.first(0, 3));
        Check.due("way(d, a)", 19, x.way(3, 0));
        Check.due("first(d, a)", 3, x.first(3, 0));
        Check.due("way(a, c)", 11, x.way(0, 2));
        Check.due("first(c, a)", 2, x.first(2, 0));
        Check.due("way(b, d)", 14, x.way(1, 3));
        Check.due("first(b, d)", 2, x.first(1, 3));
        Check.due("way(a, a)", 0, x.way(0, 0));
        Check.due("first(a, a)", -1, x.first(0, 0));
        Check.due("way(a, e)", -1, x.way(0, 4));
        Check.due("first(a, e)", -1, x.first(0, 4));
        Check.due("way(e, a)", -1, x.way(4, 0));
        Check.due("way(e, e)", 0, x.way(4, 4));
        // A way over all peaks, told from its end.
        x = Check.taught(STARS + "peak f sun from 0 to 120 mirrors 1;peak g sun from 0 to 120 mirrors 1;"
                + "peak h sun from 0 to 120 mirrors 1;pass p6 between h and g far 20;pass p5 between g and f far 20;"
                + "pass p4 between f and e far 20;pass p3 between e and d far 20;pass p2 between d and c far 20;"
                + "pass p1 between c and b far 20;pass p0 between b and a far 20;");
        Check.due("way(a, h)", 140, x.way(0, 7));
        Check.due("way(h, a)", 140, x.way(7, 0));
        Check.due("first(a, h)", 6, x.first(0, 7));
        Check.due("first(h, a)", 0, x.first(7, 0));
    }

    private static void firstOfSeveral() {
        Heliographs x = Check.taught(STARS + "pass bd between b and d far 1;pass ac between a and c far 2;"
                + "pass ab between a and b far 3;pass cd between c and d far 2;pass ad between d and a far 4;"
                + "pass ab2 between b and a far 3;pass ab3 between b and a far 2;pass ab4 between b and a far 2;");
        Check.due("way(a, d)", 3, x.way(0, 3));
        Check.due("first(a, d)", 6, x.first(0, 3));
        Check.due("first(d, a)", 0, x.first(3, 0));
        Check.due("first(b, a)", 6, x.first(1, 0));
        x = Check.taught(STARS + "pass bd between b and d far 2;pass ac between a and c far 2;"
                + "pass ab between a and b far 2;pass cd between c and d far 2;pass ad between d and a far 4;");
        Check.due("way(a, d) of three", 4, x.way(0, 3));
        Check.due("first(a, d) of three", 1, x.first(0, 3));
        Check.due("first(d, a) of three", 0, x.first(3, 0));
    }

    private static void waysOfTheMinute() {
        Heliographs x = Check.taught("peak a sun from 0 to 120 mirrors 1;peak b sun from 0 to 10 mirrors 1;"
                + "peak c sun from 0 to 120 mirrors 1;pass ab between a and b far 1;pass bc between b and c far 1;"
                + "pass ac between a and c far 9;cloud over ac every 20 for 5 from 0;cloud over ab every 60 for 2 from 56;");
        Check.due("first(a, c) ahead of any way()", 0, x.first(0, 2));
        int[] far = new int[120];
        for (int minute = 0; minute < 120; minute++) {
            boolean isShort = minute < 10 && !((minute + 56) % 60 < 2);
            far[minute] = isShort ? 2 : minute % 20 < 5 ? -1 : 9;
            Check.due("first(a, c) in " + minute, far[minute] == 2 ? 0 : far[minute] == 9 ? 2 : -1, x.first(0, 2));
            Check.due("way(a, c) in " + minute, far[minute], x.way(0, 2));
            Check.due("way(b, b) in " + minute, 0, x.way(1, 1));
            x.go(1);
        }
    }

    private static void wrongInputs() {
        Heliographs x = Check.taught(STARS + "pass p between a and b far 1;");
        int[] no = {-1, 5, Integer.MAX_VALUE, Integer.MIN_VALUE};
        for (int one : no) {
            Check.refuses(x, "hasSun(" + one + ", 0)", Check.INDEX, () -> x.hasSun(one, 0));
            Check.refuses(x, "hasSun(" + one + ", -1)", Check.INDEX, () -> x.hasSun(one, -1));
            Check.refuses(x, "isOpen(" + one + ", 0)", Check.INDEX, () -> x.isOpen(one, 0));
            Check.refuses(x, "isOpen(" + one + ", 10000)", Check.INDEX, () -> x.isOpen(one, 10000));
            Check.refuses(x, "way(" + one + ", 0)", Check.INDEX, () -> x.way(one, 0));
            Check.refuses(x, "way(0, " + one + ")", Check.INDEX, () -> x.way(0, one));
            Check.refuses(x, "way(" + one + ", " + one + ")", Check.INDEX, () -> x.way(one, one));
            Check.refuses(x, "first(" + one + ", 0)", Check.INDEX, () -> x.first(one, 0));
            Check.refuses(x, "first(0, " + one + ")", Check.INDEX, () -> x.first(0, one));
        }
        Check.refuses(x, "isOpen(1, 0)", Check.INDEX, () -> x.isOpen(1, 0));
        int[] never = {-1, 10000, Integer.MAX_VALUE, Integer.MIN_VALUE};
        for (int minute : never) {
            Check.refuses(x, "hasSun(0, " + minute + ")", Check.ARGUMENT, () -> x.hasSun(0, minute));
            Check.refuses(x, "isOpen(0, " + minute + ")", Check.ARGUMENT, () -> x.isOpen(0, minute));
        }
    }
}
