/** Promise 17: go, with what happens in a minute and in which order, and with orders of hold. */
public final class MinuteTest {
    private static final String AB = "peak a sun from 0 to 120 mirrors 1;peak b sun from 0 to 120 mirrors 1;"
            + "pass p between a and b far 1;";

    public static void main(String[] args) {
        wrongInputs();
        howMany();
        lostWords();
        breaking();
        dueMinutes();
        mirrorsInUse();
        onePassOneMessage();
        newWayEachPeak();
        holdsOfMinutes();
        holdsOfQueues();
        holdsInTurn();
        holdsOfLeftAndBreaks();
        holdsOfOpen();
        severalHolds();
        tests();
        sums();
        Check.end();
    }

    private static void wrongInputs() {
        Heliographs x = Check.taught(AB + "message m words 9 at a to b due 0;");
        for (int minutes : new int[] {0, -1, 241, Integer.MAX_VALUE, Integer.MIN_VALUE}) {
            Check.refuses(x, "go(" + minutes + ")", Check.ARGUMENT, () -> x.go(minutes));
        }
        Check.due("go(240)", 1, x.go(240));
        Check.due("go(1)", 0, x.go(1));
        Check.due("minute", 241, x.count(0));
    }

    private static void howMany() {
        Heliographs x = Check.taught(AB + "message m words 1 at a to b due 0;message n words 2 at a to b due 0;"
                + "message o words 1 at b to a due 900;");
        Check.due("sent off", 0, x.go(1));
        Check.due("m comes", 1, x.go(1));
        Check.due("minute of m", 1, x.message(0, 7));
        Check.due("n comes", 1, x.go(2));
        Check.due("minute of n", 3, x.message(1, 7));
        Check.due("none comes", 0, x.go(240));
        x = Check.taught(AB + "message m words 1 at a to b due 0;message n words 2 at a to b due 0;");
        Check.due("both come", 2, x.go(240));
    }

    private static void lostWords() {
        String list = "peak a sun from 0 to 120 mirrors 1;peak b sun from 0 to 120 mirrors 1;pass p between a and b far ?;"
                + "message m words 4 at a to b due 0;";
        Heliographs near = Check.taught(list.replace("?", "6"));
        near.go(10);
        Check.due("none is lost", 0, near.count(12));
        Check.due("near came", 4, near.message(0, 7));
        Heliographs far = Check.taught(list.replace("?", "7"));
        // 1 and 4 are 5: lost. 2 and 4 are 6, 3 and 3, 4 and 2, 5 and 1: none is lost.
        far.go(2);
        Check.due("one is lost", 1, far.count(12));
        Check.due("words left", 4, far.message(0, 5));
        Check.due("words flashed", 1, far.pass(0, 5));
        far.go(3);
        Check.due("words left", 1, far.message(0, 5));
        Check.due("it comes", 1, far.go(1));
        Check.due("far came", 5, far.message(0, 7));
        Check.due("words flashed", 5, far.pass(0, 5));
        Check.due("lost in all", 1, far.count(12));
        // It is the minute from 0 on that counts: 121 and 4 are 125.
        Heliographs late = Check.taught(list.replace("?", "20").replace("due 0", "due 120"));
        Check.go(late, 122);
        Check.due("lost in 121", 1, late.count(12));
        // 123 and the 2 words that are left.
        Heliographs later = Check.taught(list.replace("?", "20").replace("due 0", "due 121").replace("words 4", "words 3"));
        Check.go(later, 124);
        Check.due("lost in 122 and 123", 1, later.count(12));
    }

    private static void breaking() {
        Heliographs x = Check.taught("peak a sun from 0 to 4 mirrors 1;peak b sun from 0 to 120 mirrors 1;"
                + "pass p between a and b far 1;message m words 4 at a to b due 0;");
        x.go(4);
        Check.due("words left", 1, x.message(0, 5));
        // The pass is open in 3, and not in 4.
        Check.due("go", 0, x.go(1));
        Check.due("it waits", 0, x.message(0, 3));
        Check.due("words left", 4, x.message(0, 5));
        Check.due("breaks", 1, x.message(0, 6));
        Check.due("words flashed", 3, x.pass(0, 5));
        Check.due("over the pass", -1, x.pass(0, 4));
        Check.due("it waits long", 0, x.go(115));
        Check.due("it is sent off again", 0, x.message(0, 3));
        x.go(1);
        Check.due("it is sent off again", 1, x.message(0, 3));
        Check.due("breaks", 1, x.count(11));
        // What breaks off can be sent off over another pass in the same minute.
        x = Check.taught("peak a sun from 0 to 120 mirrors 1;peak b sun from 0 to 120 mirrors 1;"
                + "pass p between a and b far 1;pass q between a and b far 2;cloud over p every 60 for 1 from 57;"
                + "message m words 4 at a to b due 0;");
        x.go(3);
        Check.due("over p", 0, x.message(0, 4));
        x.go(1);
        Check.due("over q", 1, x.message(0, 4));
        Check.due("all words", 4, x.message(0, 5));
        Check.due("breaks", 1, x.message(0, 6));
        Check.due("it comes", 1, x.go(4));
        Check.due("came", 7, x.message(0, 7));
    }

    private static void dueMinutes() {
        Heliographs x = Check.taught(AB + "message m words 1 at a to b due 7;");
        x.go(7);
        Check.due("ahead of its due", 0, x.message(0, 3));
        x.go(1);
        Check.due("at its due", 1, x.message(0, 3));
        // The due is told in minutes from 0 on.
        x = Check.taught(AB + "message m words 1 at a to b due 999;");
        Check.go(x, 999);
        Check.due("ahead of 999 it waits", 0, x.message(0, 3));
        x.go(1);
        Check.due("in 999 it is sent off", 1, x.message(0, 3));
        Check.due("in 1000 it comes", 1, x.go(1));
    }

    private static void mirrorsInUse() {
        String list = "peak a sun from 0 to 120 mirrors ?;peak b sun from 0 to 120 mirrors 0;"
                + "peak c sun from 0 to 120 mirrors 0;pass p between a and b far 1;pass q between a and b far 2;pass r between a and c far 1;"
                + "message m words 3 at a to b due 0;message n words 3 at a to c due 0;message o words 3 at a to c due 0;";
        Heliographs x = Check.taught(list.replace("?", "1"));
        x.go(1);
        Check.due("m", 1, x.message(0, 3));
        Check.due("n", 0, x.message(1, 3));
        x.go(3);
        // The mirror is free in the very minute in which m comes.
        Check.due("m is there", 2, x.message(0, 3));
        Check.due("n", 1, x.message(1, 3));
        x = Check.taught(list.replace("?", "3"));
        x.go(1);
        Check.due("n", 1, x.message(1, 3));
        Check.due("o has no pass", 0, x.message(2, 3));
        Check.due("free", 1, x.peak(0, 3));
        x = Check.taught(list.replace("?", "0"));
        x.go(240);
        Check.due("without mirrors", 3, x.count(8));
    }

    private static void onePassOneMessage() {
        // From whichever end; and the second pass is not taken, as it is not on the shortest way.
        Heliographs x = Check.taught(AB + "pass q between a and b far 2;"
                + "message m words 3 at a to b due 0;message n words 3 at b to a due 0;");
        x.go(1);
        Check.due("m", 1, x.message(0, 3));
        Check.due("n", 0, x.message(1, 3));
        Check.due("over p", 0, x.pass(0, 4));
        Check.due("over q", -1, x.pass(1, 4));
        x.go(3);
        Check.due("m is there", 2, x.message(0, 3));
        Check.due("n is flashed", 1, x.message(1, 3));
        Check.due("over p", 1, x.pass(0, 4));
        Check.due("peak of n", 1, x.message(1, 1));
        x.go(3);
        Check.due("n is there", 0, x.message(1, 1));
        Check.due("came", 6, x.message(1, 7));
    }

    private static void newWayEachPeak() {
        Heliographs x = Check.taught("peak a sun from 0 to 120 mirrors 1;peak b sun from 0 to 120 mirrors 1;"
                + "peak c sun from 0 to 120 mirrors 1;pass ab between a and b far 1;pass bc between b and c far 1;"
                + "pass ac between a and c far 5;cloud over bc every 60 for 50 from 0;message m words 2 at a to c due 0;");
        // The way by b is cloudy: m goes over ac.
        x.go(1);
        Check.due("bc is cloudy", false, x.isOpen(1, 0));
        Check.due("over ac", 2, x.message(0, 4));
        x = Check.taught("peak a sun from 0 to 120 mirrors 1;peak b sun from 0 to 120 mirrors 1;"
                + "peak c sun from 0 to 120 mirrors 1;pass ab between a and b far 1;pass bc between b and c far 1;"
                + "pass ac between a and c far 5;cloud over bc every 60 for 50 from 57;message m words 2 at a to c due 0;");
        x.go(3);
        Check.due("over bc", 1, x.message(0, 4));
        // bc closes in 3, and stays closed: m goes back over a.
        x.go(5);
        Check.due("it is there", 2, x.message(0, 3));
        Check.due("came", 7, x.message(0, 7));
        Check.due("passes", 3, x.message(0, 8));
        Check.due("breaks", 1, x.message(0, 6));
    }

    private static void holdsOfMinutes() {
        Heliographs x = Check.taught(AB + "message m words 1 at a to b due 0;hold m when minute < 10 or minute > 100;");
        Check.go(x, 10);
        Check.due("held", 0, x.message(0, 3));
        x.go(1);
        Check.due("sent off in 10", 1, x.message(0, 3));
        x.go(89);
        Check.due("there", 2, x.message(0, 3));
        x.go(1);
        x.forward(0, 0);
        Check.go(x, 29);
        Check.due("held up to 129", 0, x.message(0, 3));
        x.go(1);
        Check.due("sent off in 130, the minute 10 of the day", 1, x.message(0, 3));
    }

    private static void holdsOfQueues() {
        // m is counted itself; n and o wait as well, whatever their due.
        Heliographs x = Check.taught(AB + "pass q between a and b far 2;message m words 1 at a to b due 0;"
                + "message n words 1 at a to b due 900;message o words 9 at b to a due 5;hold m when queue a = 2 and queue b = 1;");
        x.go(5);
        Check.due("held", 0, x.message(0, 3));
        // In 5 o is sent off behind m: m is held still; in 6 no more, but the pass is taken.
        x.go(1);
        Check.due("held in 5", 0, x.message(0, 3));
        Check.due("o is flashed", 1, x.message(2, 3));
        x.go(9);
        Check.due("o comes in 14", 14, x.message(2, 7));
        Check.due("m is sent off in 14", 1, x.message(0, 3));
    }

    private static void holdsInTurn() {
        // By numbers: n sees m carried in the minute in which m is sent off; m does not see n.
        String list = AB + "peak c sun from 0 to 120 mirrors 1;pass q between b and c far 2;"
                + "message m words 5 at a to b due 0;message n words 5 at b to c due 0;";
        Heliographs x = Check.taught(list + "hold n when carried m;");
        x.go(1);
        Check.due("n is held", 0, x.message(1, 3));
        x.go(5);
        Check.due("m comes in 5", 5, x.message(0, 7));
        Check.due("n is sent off in 5", 1, x.message(1, 3));
        x = Check.taught(list + "hold m when carried n;");
        x.go(1);
        Check.due("m is sent off", 1, x.message(0, 3));
        Check.due("n is sent off", 1, x.message(1, 3));
        x = Check.taught(list + "hold n when queue a = 0;");
        x.go(1);
        Check.due("m is off the queue at once", 0, x.message(1, 3));
        x = Check.taught(list + "hold n when not queue a = 0;");
        x.go(1);
        Check.due("n is not held", 1, x.message(1, 3));
    }

    private static void holdsOfLeftAndBreaks() {
        String list = "peak a sun from 0 to 120 mirrors 1;peak b sun from 0 to 120 mirrors 1;peak c sun from 0 to 120 mirrors 1;"
                + "pass p between a and b far 1;pass q between b and c far 1;"
                + "message m words 5 at a to b due 0;message n words 1 at c to b due 0;";
        // m is flashed from 1 to 5: behind the words of 3 two are left.
        Heliographs x = Check.taught(list + "hold n when left m > 2;");
        x.go(3);
        Check.due("held in 2", 0, x.message(1, 3));
        x.go(1);
        Check.due("sent off in 3", 1, x.message(1, 3));
        x = Check.taught(list + "hold n when not left m = 0;");
        x.go(5);
        Check.due("held in 4", 0, x.message(1, 3));
        x.go(1);
        Check.due("sent off in 5, as m is there", 1, x.message(1, 3));
        // All words are left, if it waits.
        x = Check.taught(list + "hold m when left m = 5;");
        x.go(9);
        Check.due("m holds itself", 0, x.message(0, 3));
        x = Check.taught(list + "hold n when breaks m < 2;");
        x.go(2);
        x.stop(0);
        x.go(2);
        Check.due("held", 0, x.message(1, 3));
        x.stop(0);
        x.go(1);
        Check.due("sent off", 1, x.message(1, 3));
    }

    private static void holdsOfOpen() {
        Heliographs x = Check.taught("peak a sun from 0 to 120 mirrors 1;peak b sun from 0 to 120 mirrors 1;"
                + "peak c sun from 3 to 6 mirrors 1;pass p between a and b far 1;pass q between b and c far 1;"
                + "message m words 1 at a to b due 0;hold m when open q or minute < 2;");
        x.go(2);
        Check.due("held in 1", 0, x.message(0, 3));
        x.go(1);
        Check.due("sent off in 2", 1, x.message(0, 3));
        x = Check.taught("peak a sun from 0 to 120 mirrors 1;peak b sun from 0 to 120 mirrors 1;"
                + "peak c sun from 4 to 7 mirrors 1;pass p between a and b far 1;pass q between b and c far 1;"
                + "message m words 1 at a to b due 0;hold m when not open q;");
        x.go(4);
        Check.due("held in 3", 0, x.message(0, 3));
        x.go(1);
        Check.due("sent off in 4", 1, x.message(0, 3));
    }

    private static void severalHolds() {
        Heliographs x = Check.taught(AB + "message m words 1 at a to b due 0;message n words 1 at a to b due 0;"
                + "hold m when 2 < 1;hold n when 1 < 2;hold m when minute < 3;hold m when minute = 3;");
        x.go(4);
        Check.due("held in 3", 0, x.message(0, 3));
        x.go(1);
        Check.due("sent off in 4", 1, x.message(0, 3));
        x.go(100);
        Check.due("n is held", 0, x.message(1, 3));
    }

    private static void holds(boolean due, String test) {
        Check.due("test " + test, due, Check.isHeld(test, 0));
    }

    private static void tests() {
        holds(true, "1 < 2");
        holds(false, "2 < 2");
        holds(false, "3 < 2");
        holds(true, "3 > 2");
        holds(false, "2 > 2");
        holds(true, "2 = 2");
        holds(false, "2 = 3");
        holds(true, "2 <= 2");
        holds(true, "1 <= 2");
        holds(false, "3 <= 2");
        holds(true, "2 >= 2");
        holds(false, "1 >= 2");
        holds(true, "3 >= 2");
        holds(false, "2 < 1 and 1 < 2");
        holds(false, "1 < 2 and 2 < 1");
        holds(true, "1 < 2 and 1 < 2");
        holds(true, "2 < 1 or 1 < 2");
        holds(true, "1 < 2 or 2 < 1");
        holds(false, "2 < 1 or 2 < 1");
        holds(false, "not 1 < 2");
        holds(true, "not not 1 < 2");
        holds(true, "1 < 2 or 1 < 2 and 2 < 1");
        holds(true, "2 < 1 and 1 < 2 or 1 < 2");
        holds(false, "[1 < 2 or 1 < 2] and 2 < 1");
        holds(true, "not 2 < 1 or 1 < 2");
        holds(false, "not [2 < 1 or 1 < 2]");
        holds(false, "not 1 < 2 and 2 < 1");
        holds(true, "not [1 < 2 and 2 < 1]");
        holds(false, "not 2 < 1 and 2 < 1");
        holds(true, "open p");
        holds(false, "not open p");
        holds(false, "carried m");
        holds(true, "left m = 7 and breaks m = 0 and queue a = 1 and queue b = 0");
        Check.due("minute 119", true, Check.isHeld("minute = 119", 119));
        Check.due("minute 120", true, Check.isHeld("minute = 0", 120));
    }

    private static void sums() {
        holds(true, "1 + 2 * 3 = 7");
        holds(true, "(1 + 2) * 3 = 9");
        holds(true, "10 - 4 - 3 = 3");
        holds(true, "10 - (4 - 3) = 9");
        holds(true, "100 / 10 / 5 = 2");
        holds(true, "100 / 10 * 5 = 50");
        holds(true, "7 / 2 = 3");
        holds(true, "-7 / 2 = -3");
        holds(true, "7 / -2 = -3");
        holds(true, "-7 / -2 = 3");
        holds(true, "7 / 0 = 0");
        holds(true, "0 / 0 = 0");
        holds(true, "-7 / (1 - 1) = 0");
        holds(true, "- 2 - - 3 = 1");
        holds(true, "-2 * 3 + 1 = -5");
        holds(true, "min(3, 2) = 2 and min(2, 3) = 2 and min(-1, 1) = -1");
        holds(true, "max(3, 2) = 3 and max(2, 3) = 3 and max(-1, 1) = 1");
        holds(true, "max(1 + 1, min(9, 3 * 3)) - 1 = 8");
        // 2147483648 wraps around: 65536 * 32768.
        holds(true, "65536 * 32768 < 0");
        holds(true, "65536 * 65536 = 0");
        holds(true, "65536 * 32768 - 1 > 0");
        holds(true, "65536 * 32768 - 1 + 1 = 65536 * 32768");
        holds(true, "65536 * 32768 / -1 = 65536 * 32768");
        holds(true, "-(65536 * 32768) = 65536 * 32768");
        holds(true, "999999 * 999999 = -(729379 * 1000 + 967)");
        holds(true, "max(65536 * 32768, 0) = 0");
        holds(true, "min(65536 * 32768, 0) < 0");
        holds(true, "65536 * 32768 < 65536 * 32768 - 1");
    }
}
