/** Promises 18 to 22: until, opens, foresee, missed, advise. */
public final class ForesightTest {
    public static void main(String[] args) {
        until();
        untilTheLastMinute();
        opens();
        foresee();
        missed();
        missedOfTests();
        missedWhenAllCome();
        advise();
        adviseBeyondFour();
        wrongInputs();
        Check.end();
    }

    private static final String AB = "peak a sun from 0 to 120 mirrors 1;peak b sun from 0 to 120 mirrors 1;"
            + "pass p between a and b far 1;";

    private static void until() {
        Heliographs x = Check.taught(AB + "message m words 3 at a to b due 2;message n words 1 at b to a due 0;"
                + "hold n when 1 < 2;");
        long before = x.digest();
        Check.due("until(m)", 6, x.until(0));
        Check.due("until(n)", -1, x.until(1));
        Check.due("digest", before, x.digest());
        x.go(5);
        Check.due("until(m) behind 5", 1, x.until(0));
        x.go(1);
        Check.due("until(m) behind 6", 0, x.until(0));
        Check.due("it is there", 2, x.message(0, 3));
        x.forward(0, 0);
        Check.due("until(m) forwarded", 4, x.until(0));
    }

    private static void untilTheLastMinute() {
        // It is sent off in its due, and is there behind the minute after it.
        Heliographs x = Check.taught(AB + "message m words 1 at a to b due 358;message n words 1 at b to a due 360;");
        Check.due("until(m)", 360, x.until(0));
        Check.due("until(n)", -1, x.until(1));
        x.go(1);
        Check.due("until(m) behind 1", 359, x.until(0));
        Check.due("until(n) behind 1", -1, x.until(1));
        x.go(1);
        Check.due("until(n) behind 2", 360, x.until(1));
    }

    private static void opens() {
        Heliographs x = Check.taught("peak a sun from 100 to 102 mirrors 1;peak b sun from 0 to 120 mirrors 1;"
                + "peak c sun from 9 to 9 mirrors 1;pass p between a and b far 1;pass q between b and c far 1;"
                + "pass r between b and a far 1;cloud over p every 60 for 59 from 19;cloud over p every 7 for 1 from 0;");
        Check.due("opens(q)", -1, x.opens(1));
        Check.due("opens(r)", 100, x.opens(2));
        // p has no cloud in minutes 40, 100, 160, .. by the first one; with sun in 100, 220, ..
        Check.due("opens(p)", 100, x.opens(0));
        x.go(100);
        Check.due("opens(r) in 100", 0, x.opens(2));
        x.go(2);
        Check.due("opens(r) in 102", 118, x.opens(2));
        Check.due("opens(p) in 102", 118, x.opens(0));
        // Just in 240 minutes, and just not.
        Heliographs y = Check.taught("peak a sun from 0 to 1 mirrors 1;peak b sun from 0 to 120 mirrors 1;"
                + "pass p between a and b far 1;cloud over p every 2 for 1 from 0;cloud over p every 49 for 48 from 1;"
                + "pass q between a and b far 1;cloud over q every 50 for 1 from 0;cloud over q every 40 for 1 from 0;");
        Check.due("opens(p)", -1, y.opens(0));
        Check.due("opens(q)", -1, y.opens(1));
        y = Check.taught("peak a sun from 0 to 1 mirrors 1;peak b sun from 0 to 120 mirrors 1;"
                + "pass p between a and b far 1;cloud over p every 48 for 24 from 0;");
        // Of 0, 120, 240 the remainders by 48 are 0, 24, 0.
        Check.due("opens(p)", 120, y.opens(0));
        y.go(121);
        Check.due("opens(p) in 121", 239, y.opens(0));
        y = Check.taught("peak a sun from 0 to 1 mirrors 1;peak b sun from 0 to 120 mirrors 1;"
                + "pass p between a and b far 1;cloud over p every 25 for 24 from 9;");
        // (minute + 9) by the remainder of 25 is 24 in 240, as in 15.
        Check.due("opens(p) in 0", 240, y.opens(0));
        y = Check.taught("peak a sun from 1 to 2 mirrors 1;peak b sun from 0 to 120 mirrors 1;"
                + "pass p between a and b far 1;cloud over p every 25 for 24 from 8;");
        Check.due("opens(p) in 241", -1, y.opens(0));
        y.go(1);
        Check.due("opens(p) in 241, from 1", 240, y.opens(0));
    }

    private static void foresee() {
        String list = "peak a sun from 0 to 9 mirrors 2;peak b sun from 0 to 120 mirrors 2;"
                + "pass p between a and b far 7;pass q between b and a far 8;message m words 4 at a to b due 0;"
                + "message n words 40 at a to b due 0;message o words 3 at b to a due 999;";
        int[][] due = new int[241][13];
        for (int what = 8; what <= 12; what++) {
            Heliographs y = Check.taught(list);
            for (int minutes = 1; minutes <= 240; minutes++) {
                y.go(1);
                due[minutes][what] = y.count(what);
            }
        }
        Check.due("there behind 6", 1, due[6][10]);
        Check.due("broken behind 10", 1, due[10][11]);
        Check.due("something is lost", true, due[6][12] > 0);
        for (int minutes = 1; minutes <= 240; minutes++) {
            Heliographs y = Check.taught(list);
            long before = y.digest();
            for (int what = 8; what <= 12; what++) {
                Check.due("foresee(" + minutes + ", " + what + ")", due[minutes][what], y.foresee(minutes, what));
            }
            Check.due("digest", before, y.digest());
        }
        Heliographs x = Check.taught(list);
        x.go(7);
        Check.due("foresee(3, 11) behind 7", due[10][11], x.foresee(3, 11));
        Check.due("foresee(3, 12) behind 7", due[10][12], x.foresee(3, 12));
    }

    private static void missed() {
        Heliographs x = Check.taught("peak a sun from 0 to 120 mirrors 4;peak b sun from 0 to 120 mirrors 4;"
                + "peak c sun from 0 to 120 mirrors 4;pass ab between a and b far 1;pass ac between a and c far 1;"
                + "pass bc between b and c far 1;message m words 1 at a to b due 0;message n words 1 at a to c due 0;"
                + "message o words 5 at c to a due 0;");
        long before = x.digest();
        // Behind 2 minutes m and n are there; without bc as well, without ab or ac one of them.
        Check.due("missed(2)", 0, x.missed(2));
        Check.due("missed(1)", 0, x.missed(1));
        Check.due("digest", before, x.digest());
        // Behind 8 minutes o is there over ac; without ac n comes over b, and o is late.
        Check.due("missed(8)", 1, x.missed(8));
        Check.due("missed(240)", 0, x.missed(240));
        // What is flashed over it breaks off at once.
        x.go(1);
        Check.due("m is flashed", 1, x.message(0, 3));
        Check.due("missed(1) behind 1", 0, x.missed(1));
        Check.due("m is flashed still", 1, x.message(0, 3));
        Heliographs alone = Check.taught("peak a sun from 0 to 120 mirrors 4;peak b sun from 0 to 120 mirrors 1;"
                + "message m words 1 at a to b due 0;");
        Check.due("missed without passes", -1, alone.missed(5));
        // What was tried is not kept for what is asked next.
        Heliographs next = Check.taught(AB + "message m words 1 at a to b due 0;");
        Check.due("missed(9)", 0, next.missed(9));
        Check.due("until behind missed", 2, next.until(0));
        Check.due("missed(9) again", 0, next.missed(9));
        Check.due("foresee behind missed", 1, next.foresee(2, 10));
        Check.due("advise(1)", -1, next.advise(1));
    }

    private static void missedWhenAllCome() {
        StringBuilder list = new StringBuilder(AB + "pass q between a and b far 1;");
        for (int i = 0; i < 8; i++) {
            list.append("message m" + i + " words 1 at a to b due 0;");
        }
        Heliographs x = Check.taught(list.toString());
        Check.due("all eight come", 8, x.foresee(100, 10));
        Check.due("missed(100)", 0, x.missed(100));
    }

    private static void missedOfTests() {
        // Without q, on which nothing goes, m is not held.
        Heliographs x = Check.taught("peak a sun from 0 to 120 mirrors 1;peak b sun from 0 to 120 mirrors 1;"
                + "pass q between a and b far 9;pass r between a and b far 8;pass p between a and b far 1;"
                + "message m words 1 at a to b due 0;hold m when not open r;");
        Check.due("without r it is held", 1, x.missed(5));
        x = Check.taught("peak a sun from 0 to 120 mirrors 1;peak b sun from 0 to 120 mirrors 1;"
                + "pass q between a and b far 9;pass p between a and b far 1;"
                + "message m words 1 at a to b due 0;hold m when open q;");
        Check.due("without q it is there", 1, x.missed(5));
    }

    private static void advise() {
        Heliographs x = Check.taught("peak a sun from 0 to 120 mirrors 0;peak b sun from 0 to 120 mirrors 0;"
                + "peak c sun from 0 to 120 mirrors 0;pass ab between a and b far 1;pass bc between b and c far 1;"
                + "message m words 1 at a to b due 0;message n words 1 at c to b due 0;message o words 1 at c to b due 0;");
        long before = x.digest();
        Check.due("advise(1)", -1, x.advise(1));
        Check.due("advise(2)", 0, x.advise(2));
        Check.due("advise(3)", 2, x.advise(3));
        Check.due("advise(240)", 2, x.advise(240));
        Check.due("digest", before, x.digest());
        x.mirror(2, true);
        Check.due("advise(240) with c", 0, x.advise(240));
        x.mirror(0, true);
        Check.due("advise(240) with both", -1, x.advise(240));
        Check.due("advise(2) with both", -1, x.advise(2));
    }

    private static void adviseBeyondFour() {
        StringBuilder list = new StringBuilder("peak a sun from 0 to 120 mirrors 4;");
        for (int i = 0; i < 5; i++) {
            list.append("peak b" + i + " sun from 0 to 120 mirrors 0;pass p" + i + " between a and b" + i + " far 1;"
                    + "message m" + i + " words 1 at a to b" + i + " due 0;");
        }
        Heliographs x = Check.taught(list.toString());
        Check.due("advise(2)", 0, x.advise(2));
        Check.due("advise(3)", -1, x.advise(3));
        Check.due("mirrors", 4, x.peak(0, 2));
    }

    private static void wrongInputs() {
        Heliographs x = Check.taught(AB + "message m words 1 at a to b due 0;");
        for (int no : new int[] {-1, 1, Integer.MAX_VALUE, Integer.MIN_VALUE}) {
            Check.refuses(x, "until(" + no + ")", Check.INDEX, () -> x.until(no));
            Check.refuses(x, "opens(" + no + ")", Check.INDEX, () -> x.opens(no));
        }
        for (int no : new int[] {0, -1, 241, Integer.MAX_VALUE, Integer.MIN_VALUE}) {
            Check.refuses(x, "foresee(" + no + ", 8)", Check.ARGUMENT, () -> x.foresee(no, 8));
            Check.refuses(x, "foresee(" + no + ", 7)", Check.ARGUMENT, () -> x.foresee(no, 7));
            Check.refuses(x, "missed(" + no + ")", Check.ARGUMENT, () -> x.missed(no));
            Check.refuses(x, "advise(" + no + ")", Check.ARGUMENT, () -> x.advise(no));
            Heliographs empty = new Heliographs();
            Check.refuses(empty, "missed(" + no + ") of a new one", Check.ARGUMENT, () -> empty.missed(no));
            Check.refuses(empty, "advise(" + no + ") of a new one", Check.ARGUMENT, () -> empty.advise(no));
        }
        for (int no : new int[] {7, 13, 0, -1, Integer.MAX_VALUE, Integer.MIN_VALUE}) {
            Check.refuses(x, "foresee(1, " + no + ")", Check.INDEX, () -> x.foresee(1, no));
        }
    }
}
