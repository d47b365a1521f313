/** The edges that the document names in its second part: sun, clouds, ways, and what happens in a minute. */
public final class ChainEdgeTest {
    private static final int WAITS = 0;
    private static final int FLASHED = 1;
    private static final int THERE = 2;
    private static final String AB = peak("a", 1) + peak("b", 1) + "pass p between a and b far 1;";

    public static void main(String[] args) {
        skyAndWays();
        wordsThatAreFlashed();
        messagesThatWait();
        numbersOfTests();
        Check.end();
    }

    private static void skyAndWays() {
        Check.sentence("from from on up to ahead of to", ChainEdgeTest::sunFromTo);
        Check.sentence("(never, if to is not greater)", ChainEdgeTest::neverSun);
        Check.sentence("by the remainder of every, is less than for", ChainEdgeTest::cloudRemainder);
        Check.sentence("the minute (from 0 on, not that of the day) and from, added", ChainEdgeTest::cloudFromZero);
        Check.sentence("A pass is open in a minute, if both its peaks have sun, and no cloud lies over it",
                ChainEdgeTest::openPass);
        Check.sentence("A message is at a peak, the one behind at, at first; it waits there", ChainEdgeTest::atFirst);
        Check.sentence("passes that are open then, one behind the other", ChainEdgeTest::longestWay);
        Check.sentence("the shortest one is that with the least far, added", ChainEdgeTest::leastFar);
        Check.sentence("of several that whose first pass has the smallest number", ChainEdgeTest::severalWays);
    }

    private static void wordsThatAreFlashed() {
        Check.sentence("if its pass is open in this minute, a word of it is flashed", ChainEdgeTest::openInThisMinute);
        Check.sentence("if the far of the pass is 7 or more", ChainEdgeTest::farOfSeven);
        Check.sentence("and the minute (from 0 on) and the words that were left ahead of it, added, can be divided by 5",
                ChainEdgeTest::dividedByFive);
        Check.sentence("Without any left it is at the other peak, and waits there, or is there", ChainEdgeTest::withoutAnyLeft);
        Check.sentence("it is told in which minute it came", ChainEdgeTest::minuteOfComing);
        Check.sentence("it waits where it is, with all its words left again", ChainEdgeTest::allWordsAgain);
        Check.sentence("Messages that are flashed, by numbers", ChainEdgeTest::flashedByNumbers);
    }

    private static void messagesThatWait() {
        Check.sentence("(those as well that began to do so in step 1)", ChainEdgeTest::beganToWait);
        Check.sentence("whose due is not greater than the minute", ChainEdgeTest::dueAndMinute);
        Check.sentence("Messages that wait", ChainEdgeTest::onlyThoseThatWait);
        Check.sentence("Messages that wait .., by numbers", ChainEdgeTest::waitingByNumbers);
        Check.sentence("the test of no order of hold for it holds as it comes to its turn", ChainEdgeTest::asItComesToItsTurn);
        Check.sentence("the test of no order of hold for it holds", ChainEdgeTest::noOrderOfHold);
        Check.sentence("(as many messages as it has mirrors are not flashed from there)", ChainEdgeTest::mirrorsThatAreFree);
        Check.sentence("there is a way from there to where it goes in this minute", ChainEdgeTest::wayInThisMinute);
        Check.sentence("no message is flashed over the first pass of the shortest one, from whichever end",
                ChainEdgeTest::passInUse);
        Check.sentence("then it is flashed over this one from the next minute on, with all its words left",
                ChainEdgeTest::fromTheNextMinuteOn);
        Check.sentence("The minute is 1 greater", ChainEdgeTest::minuteGoesOn);
    }

    private static void numbersOfTests() {
        Check.sentence("queue how many messages wait at a peak (whatever their due)", ChainEdgeTest::queue);
        Check.sentence("left .. (all of them, if it waits; 0, if it is there)", ChainEdgeTest::left);
        Check.sentence("breaks how often its flashing broke off", ChainEdgeTest::breaks);
        Check.sentence("open holds, if the pass is open in this minute", ChainEdgeTest::open);
        Check.sentence("carried, if the message is flashed", ChainEdgeTest::carried);
        Check.sentence("and binds more than or, not more than and", ChainEdgeTest::bindsMore);
        Check.sentence("< > = <= >=", ChainEdgeTest::comparisons);
    }

    private static String peak(String name, int mirrors) {
        return "peak " + name + " sun from 0 to 120 mirrors " + mirrors + ";";
    }

    private static void state(Heliographs x, int message, int due) {
        Check.due("how message " + message + " is in " + x.count(0), due, x.message(message, 3));
    }

    // ---- sky and ways

    private static void sunFromTo() {
        for (int[] sun : new int[][] {{0, 1}, {0, 120}, {1, 119}, {10, 20}, {59, 60}, {60, 61}, {119, 120}}) {
            Heliographs x = Check.taught("peak a sun from " + sun[0] + " to " + sun[1] + " mirrors 1;");
            for (int day : new int[] {0, 120, 9840}) {
                for (int minute : new int[] {0, sun[0] - 1, sun[0], sun[0] + 1, sun[1] - 1, sun[1], sun[1] + 1, 119}) {
                    if (minute >= 0 && minute < 120) {
                        boolean due = minute >= sun[0] && minute <= sun[1] - 1;
                        Check.due(sun[0] + " to " + sun[1] + " in " + (day + minute), due, x.hasSun(0, day + minute));
                    }
                }
            }
        }
    }

    private static void neverSun() {
        for (int[] sun : new int[][] {{10, 9}, {10, 10}, {10, 11}, {120, 119}, {120, 120}, {120, 0}, {0, 0}, {0, 1}, {119, 118}}) {
            Heliographs x = Check.taught("peak a sun from " + sun[0] + " to " + sun[1] + " mirrors 1;");
            int minutes = 0;
            for (int minute = 0; minute < 240; minute++) {
                minutes += x.hasSun(0, minute) ? 1 : 0;
            }
            Check.due("minutes with sun of two days, " + sun[0] + " to " + sun[1], sun[1] > sun[0] ? 2 : 0, minutes);
        }
    }

    private static void cloudRemainder() {
        for (int[] cloud : new int[][] {{2, 1, 0}, {2, 1, 1}, {2, 1, 59}, {10, 3, 0}, {10, 9, 4}, {60, 59, 0}, {60, 1, 59}}) {
            Heliographs x = Check.taught(AB + "cloud over p every " + cloud[0] + " for " + cloud[1] + " from " + cloud[2] + ";");
            for (int minute = 0; minute < 130; minute++) {
                // In each row of every minutes the first ones are cloudy, for long, and the rest is not.
                int place = minute + cloud[2];
                while (place >= cloud[0]) {
                    place -= cloud[0];
                }
                Check.due("every " + cloud[0] + " for " + cloud[1] + " from " + cloud[2] + " in " + minute,
                        place > cloud[1] - 1, x.isOpen(0, minute));
            }
        }
    }

    private static void cloudFromZero() {
        // 120 leaves 20 of 50, and 0 of 60 and of 40: told by the day, it would be cloudy in 120 as in 0.
        Heliographs x = Check.taught(AB + "cloud over p every 50 for 20 from 0;");
        int[][] due = {{0, 0}, {19, 0}, {20, 1}, {49, 1}, {50, 0}, {100, 0}, {119, 0}, {120, 1}, {149, 1}, {150, 0}, {169, 0},
            {170, 1}, {240, 1}, {250, 0}, {9999, 1}, {9950, 0}, {9949, 1}};
        for (int[] one : due) {
            Check.due("isOpen in " + one[0], one[1], x.isOpen(0, one[0]) ? 1 : 0);
        }
        x = Check.taught(AB + "cloud over p every 7 for 1 from 6;message m words 1 at a to b due 120;");
        // 120 and 6 are 126, which 7 divides; by the day it would be 6.
        Check.go(x, 121);
        state(x, 0, WAITS);
        x.go(1);
        state(x, 0, FLASHED);
    }

    private static void openPass() {
        Heliographs x = Check.taught("peak a sun from 10 to 40 mirrors 1;peak b sun from 20 to 50 mirrors 1;"
                + "pass p between a and b far 1;pass q between b and a far 1;cloud over p every 60 for 1 from 30;"
                + "cloud over p every 60 for 1 from 27;");
        for (int day = 0; day <= 120; day += 120) {
            for (int minute = 0; minute < 120; minute++) {
                boolean sun = minute >= 20 && minute < 40;
                Check.due("p in " + (day + minute), sun && minute != 30 && minute != 33, x.isOpen(0, day + minute));
                Check.due("q in " + (day + minute), sun, x.isOpen(1, day + minute));
            }
        }
    }

    private static void atFirst() {
        Heliographs x = Check.taught(AB + peak("c", 0) + "message m words 1 at c to a due 0;message n words 40 at b to c due 999;");
        int[][] due = {{1, 2, 0, 0, -1, 1, 0, -1, 0}, {40, 1, 2, 0, -1, 40, 0, -1, 0}};
        for (int message = 0; message < 2; message++) {
            for (int what = 0; what <= 8; what++) {
                Check.due("message(" + message + ", " + what + ")", due[message][what], x.message(message, what));
            }
        }
        Check.due("queue of c", 1, x.peak(2, 4));
        Check.due("queue of b", 1, x.peak(1, 4));
        Check.due("queue of a", 0, x.peak(0, 4));
    }

    private static String row(int peaks, int far) {
        StringBuilder list = new StringBuilder();
        for (int i = 0; i < peaks; i++) {
            list.append(peak("k" + i, 1));
        }
        for (int i = 1; i < peaks; i++) {
            list.append("pass p" + i + " between k" + (i - 1) + " and k" + i + " far " + far + ";");
        }
        return list.toString();
    }

    private static void longestWay() {
        // Eight peaks in a row: no way has more than seven passes, none is farther than 140.
        Heliographs x = Check.taught(row(8, 20));
        for (int a = 0; a < 8; a++) {
            for (int b = 0; b < 8; b++) {
                Check.due("way(" + a + ", " + b + ")", 20 * Math.abs(a - b), x.way(a, b));
                Check.due("first(" + a + ", " + b + ")", a == b ? -1 : a < b ? a : a - 1, x.first(a, b));
            }
        }
        // Without one of them there is none; the cloud is over the last one in the minutes 0, 2, ..
        x = Check.taught(row(8, 1) + "cloud over p7 every 2 for 1 from 0;");
        Check.due("way(0, 7) in 0", -1, x.way(0, 7));
        Check.due("first(0, 7) in 0", -1, x.first(0, 7));
        Check.due("way(0, 6) in 0", 6, x.way(0, 6));
        Check.due("way(7, 7) in 0", 0, x.way(7, 7));
        x.go(1);
        Check.due("way(0, 7) in 1", 7, x.way(0, 7));
        Check.due("first(0, 7) in 1", 0, x.first(0, 7));
        Check.due("first(7, 0) in 1", 6, x.first(7, 0));
    }

    private static void leastFar() {
        // Around b it is 6 in all: a pass of 5 is shorter, one of 6 is one of several, one of 7 is not taken.
        for (int far = 5; far <= 7; far++) {
            Heliographs x = Check.taught(peak("a", 1) + peak("b", 1) + peak("c", 1) + "pass ab between a and b far 3;"
                    + "pass bc between c and b far 3;pass ac between a and c far " + far + ";message m words 1 at a to c due 0;");
            Check.due("way with " + far, far < 6 ? far : 6, x.way(0, 2));
            Check.due("first with " + far, far < 6 ? 2 : 0, x.first(0, 2));
            Check.due("first of the way back with " + far, far < 6 ? 2 : 1, x.first(2, 0));
            x.go(1);
            Check.due("pass of m with " + far, far < 6 ? 2 : 0, x.message(0, 4));
        }
        // It is far that counts, and not how many passes there are.
        Heliographs y = Check.taught(row(8, 2) + "pass q between k0 and k7 far 15;");
        Check.due("way of seven passes", 14, y.way(0, 7));
        Check.due("its first", 0, y.first(0, 7));
        y = Check.taught(row(8, 2) + "pass q between k0 and k7 far 13;");
        Check.due("way of one pass", 13, y.way(0, 7));
        Check.due("its first", 7, y.first(0, 7));
    }

    private static void severalWays() {
        String peaks = peak("a", 1) + peak("b", 1) + peak("c", 1);
        String direct = "pass ac between c and a far 6;";
        String around = "pass bc between b and c far 3;pass ab between a and b far 3;";
        Heliographs x = Check.taught(peaks + direct + around);
        Check.due("way, direct told first", 6, x.way(0, 2));
        Check.due("first, direct told first", 0, x.first(0, 2));
        Check.due("back, direct told first", 0, x.first(2, 0));
        x = Check.taught(peaks + around + direct);
        Check.due("first, around told first", 1, x.first(0, 2));
        Check.due("back, around told first", 0, x.first(2, 0));
        // Passes between the same peaks: the first of the nearest ones.
        x = Check.taught(peaks + "pass p0 between a and b far 5;pass p1 between b and a far 4;pass p2 between a and b far 4;"
                + "pass p3 between a and b far 6;message m words 1 at a to b due 0;message n words 1 at b to a due 0;");
        Check.due("way of equal passes", 4, x.way(0, 1));
        Check.due("first of equal passes", 1, x.first(0, 1));
        Check.due("back over equal passes", 1, x.first(1, 0));
        x.go(1);
        Check.due("pass of m", 1, x.message(0, 4));
        state(x, 1, WAITS);
        // The first pass counts alone: behind it the smallest number of all does not lead there.
        x = Check.taught(peaks + peak("d", 1) + "pass cd between c and d far 2;pass ab between a and b far 2;"
                + "pass ac between a and c far 2;pass bd between b and d far 2;");
        Check.due("first of ways over b and c", 1, x.first(0, 3));
        Check.due("back of ways over b and c", 0, x.first(3, 0));
    }

    // ---- step 1

    private static void openInThisMinute() {
        // Of 4 words; b has sun up to ahead of to: with 5 the last word is flashed in 4, with 4 it breaks off there.
        for (int to = 3; to <= 6; to++) {
            Heliographs x = Check.taught(peak("a", 1) + "peak b sun from 0 to " + to + " mirrors 1;"
                    + "pass p between a and b far 1;message m words 4 at a to b due 0;");
            Check.due("messages that come, with " + to, to >= 5 ? 1 : 0, x.go(5));
            Check.due("breaks, with " + to, to >= 5 ? 0 : 1, x.message(0, 6));
            Check.due("words over p, with " + to, to >= 5 ? 4 : to - 1, x.pass(0, 5));
            state(x, 0, to >= 5 ? THERE : WAITS);
        }
        // The minute in which it is sent off flashes none; a cloud in the next one breaks it off.
        Heliographs y = Check.taught(AB + "cloud over p every 60 for 1 from 59;message m words 1 at a to b due 0;");
        y.go(1);
        state(y, 0, FLASHED);
        y.go(1);
        state(y, 0, WAITS);
        Check.due("breaks", 1, y.message(0, 6));
        Check.due("words over p", 0, y.pass(0, 5));
    }

    private static void farOfSeven() {
        // In 1 and with 4 words left it is 5 that is divided.
        for (int far = 5; far <= 9; far++) {
            Heliographs x = Check.taught(peak("a", 1) + peak("b", 1) + "pass p between a and b far " + far
                    + ";message m words 4 at a to b due 0;");
            x.go(2);
            Check.due("lost in 1, far " + far, far >= 7 ? 1 : 0, x.count(12));
            Check.due("left behind 1, far " + far, far >= 7 ? 4 : 3, x.message(0, 5));
            Check.due("flashed in 1, far " + far, 1, x.pass(0, 5));
        }
        Heliographs y = Check.taught(peak("a", 1) + peak("b", 1) + "pass p between a and b far 20;message m words 4 at a to b due 0;");
        y.go(2);
        Check.due("lost in 1, far 20", 1, y.count(12));
    }

    private static void dividedByFive() {
        // Sent off in due, so that the first word is flashed in the minute behind it.
        for (int words = 1; words <= 12; words++) {
            for (int due : new int[] {0, 1, 2, 3, 4, 118, 119, 120, 121, 122, 240, 998, 999}) {
                Heliographs x = Check.taught(peak("a", 1) + peak("b", 1) + "pass p between a and b far 7;message m words "
                        + words + " at a to b due " + due + ";");
                Check.go(x, due + 2);
                boolean isLost = (due + 1 + words) % 5 == 0;
                Check.due("lost in " + (due + 1) + " of " + words, isLost ? 1 : 0, x.count(12));
                Check.due("left in " + (due + 1) + " of " + words, isLost ? words : words - 1, x.message(0, 5));
            }
        }
        // The last one as well: 4 and 1 are 5, and in 5 they are 6.
        Heliographs y = Check.taught(peak("a", 1) + peak("b", 1) + "pass p between a and b far 7;message m words 1 at a to b due 3;");
        y.go(5);
        state(y, 0, FLASHED);
        Check.due("lost in 4", 1, y.count(12));
        y.go(1);
        state(y, 0, THERE);
        Check.due("lost in 5", 1, y.count(12));
        Check.due("flashed in all", 2, y.pass(0, 5));
    }

    private static void withoutAnyLeft() {
        for (int words : new int[] {1, 2, 3, 39, 40}) {
            Heliographs x = Check.taught(AB + peak("c", 0) + "pass q between b and c far 1;message m words " + words
                    + " at a to b due 0;message n words " + words + " at a to c due 0;");
            x.go(words);
            state(x, 0, FLASHED);
            Check.due("words left of " + words, 1, x.message(0, 5));
            Check.due("peak of m", 0, x.message(0, 1));
            Check.due("passes of m", 0, x.message(0, 8));
            x.go(1);
            state(x, 0, THERE);
            Check.due("words left of " + words + ", there", 0, x.message(0, 5));
            Check.due("peak of m, there", 1, x.message(0, 1));
            Check.due("passes of m, there", 1, x.message(0, 8));
            // n comes to b on its way to c: it is not there, and goes on with all its words.
            x.go(words);
            Check.due("peak of n", 1, x.message(1, 1));
            Check.due("words left of n", words, x.message(1, 5));
            Check.due("minute in which n came", -1, x.message(1, 7));
            state(x, 1, FLASHED);
            x.mirror(1, true);
            x.go(words);
            state(x, 1, THERE);
            Check.due("passes of n", 2, x.message(1, 8));
        }
        // Without a mirror at b it waits there, and is not there.
        Heliographs y = Check.taught(peak("a", 1) + peak("b", 0) + peak("c", 0) + "pass p between a and b far 1;"
                + "pass q between b and c far 1;message m words 2 at a to c due 0;");
        y.go(9);
        state(y, 0, WAITS);
        Check.due("peak of m", 1, y.message(0, 1));
        Check.due("words left of m", 2, y.message(0, 5));
        Check.due("minute in which m came", -1, y.message(0, 7));
    }

    private static void minuteOfComing() {
        for (int due : new int[] {0, 1, 117, 118, 119, 120, 999}) {
            Heliographs x = Check.taught(AB + "message m words 1 at a to b due " + due + ";");
            Check.go(x, due + 1);
            Check.due("came, behind " + (due + 1), -1, x.message(0, 7));
            x.go(1);
            Check.due("came, behind " + (due + 2), due + 1, x.message(0, 7));
            Check.due("minute behind it", due + 2, x.count(0));
            x.go(1);
            Check.due("came, later", due + 1, x.message(0, 7));
        }
    }

    private static void allWordsAgain() {
        for (int words : new int[] {1, 2, 40}) {
            // a has no sun in 41: it breaks off, whatever was flashed by then.
            Heliographs x = Check.taught("peak a sun from 0 to 41 mirrors 1;" + peak("b", 1) + "pass p between a and b far 1;"
                    + "message m words " + words + " at a to b due " + (41 - words) + ";");
            x.go(41);
            state(x, 0, FLASHED);
            Check.due("left of " + words, 1, x.message(0, 5));
            x.go(1);
            state(x, 0, WAITS);
            Check.due("peak", 0, x.message(0, 1));
            Check.due("left again of " + words, words, x.message(0, 5));
            Check.due("pass", -1, x.message(0, 4));
            Check.due("passes", 0, x.message(0, 8));
            Check.due("breaks", 1, x.message(0, 6));
            Check.due("breaks in all", 1, x.count(11));
            Check.due("words over p stay told", words - 1, x.pass(0, 5));
        }
    }

    private static void flashedByNumbers() {
        // m and n come to b in the same minute, and both are told.
        Heliographs x = Check.taught(AB + peak("c", 1)
                + "pass q between c and b far 1;message m words 2 at a to b due 0;message n words 2 at c to b due 0;");
        Check.due("in 0 and 1", 0, x.go(2));
        Check.due("in 2", 2, x.go(1));
        Check.due("m came", 2, x.message(0, 7));
        Check.due("n came", 2, x.message(1, 7));
    }

    // ---- step 2

    private static void beganToWait() {
        // It comes to b in 1, and is sent on from there in 1: flashed in 2, there in 2.
        Heliographs x = Check.taught(row(3, 1) + "message m words 1 at k0 to k2 due 0;");
        x.go(2);
        Check.due("peak behind 2", 1, x.message(0, 1));
        state(x, 0, FLASHED);
        Check.due("comes in 2", 1, x.go(1));
        // It breaks off in 2, and is sent off over the other pass in 2.
        Heliographs y = Check.taught(AB + "pass q between a and b far 2;cloud over p every 60 for 1 from 58;"
                + "message m words 3 at a to b due 0;");
        y.go(2);
        Check.due("over p", 0, y.message(0, 4));
        y.go(1);
        Check.due("over q", 1, y.message(0, 4));
        Check.due("breaks", 1, y.message(0, 6));
        // What comes to where it goes does not wait: its mirror stays free, and nothing is sent on.
        Heliographs z = Check.taught(AB + "message m words 1 at a to b due 0;message n words 1 at b to a due 0;");
        z.go(2);
        state(z, 0, THERE);
        state(z, 1, FLASHED);
        Check.due("free mirrors of b", 0, z.peak(1, 3));
    }

    private static void dueAndMinute() {
        for (int due : new int[] {0, 1, 2, 119, 120, 121, 998, 999}) {
            Heliographs x = Check.taught(AB + "message m words 9 at a to b due " + due + ";");
            if (due > 0) {
                Check.go(x, due);
                state(x, 0, WAITS);
            }
            x.go(1);
            state(x, 0, FLASHED);
            // It is due still, long behind it: it is the minute that is greater.
            Heliographs y = Check.taught("peak a sun from 0 to 120 mirrors 0;" + peak("b", 1) + "pass p between a and b far 1;"
                    + "message m words 9 at a to b due " + due + ";");
            Check.go(y, due + 241);
            y.mirror(0, true);
            y.go(1);
            state(y, 0, FLASHED);
        }
    }

    private static void onlyThoseThatWait() {
        // p is cloudy in 0: m goes over q, and stays with it as p opens in 1, which is shorter, and a has a mirror free.
        Heliographs x = Check.taught(peak("a", 2) + peak("b", 1) + "pass p between a and b far 1;pass q between a and b far 2;"
                + "cloud over p every 60 for 1 from 0;message m words 3 at a to b due 0;");
        x.go(2);
        Check.due("first(a, b) in 2", 0, x.first(0, 1));
        Check.due("over q", 1, x.message(0, 4));
        Check.due("left", 2, x.message(0, 5));
        x.go(2);
        Check.due("m came", 3, x.message(0, 7));
        // And what is there stays there, until it is sent on.
        x.go(9);
        state(x, 0, THERE);
        Check.due("passes", 1, x.message(0, 8));
    }

    private static void waitingByNumbers() {
        // One mirror, one pass: the smallest number goes first, and not the one that waits longest or is due first.
        Heliographs x = Check.taught(AB + "message m words 1 at a to b due 1;message n words 1 at a to b due 0;"
                + "message o words 1 at a to b due 0;");
        x.go(1);
        state(x, 1, FLASHED);
        x.go(1);
        state(x, 0, FLASHED);
        state(x, 2, WAITS);
        x.go(1);
        state(x, 2, FLASHED);
        // One that came in step 1 waits behind one with a smaller number, and ahead of one with a greater one.
        String three = row(3, 1) + "pass q between k0 and k1 far 1;";
        Heliographs y = Check.taught(three + "message m words 9 at k1 to k2 due 1;message n words 1 at k0 to k2 due 0;");
        y.go(2);
        state(y, 0, FLASHED);
        state(y, 1, WAITS);
        Heliographs z = Check.taught(three + "message m words 1 at k0 to k2 due 0;message n words 9 at k1 to k2 due 1;");
        z.go(2);
        state(z, 0, FLASHED);
        state(z, 1, WAITS);
    }

    private static void asItComesToItsTurn() {
        String list = AB + peak("c", 1) + "pass q between b and c far 1;message m words 3 at a to b due 0;"
                + "message n words 3 at b to c due 0;message o words 3 at c to b due 0;";
        // In the minute 0 m is sent off ahead of n: n sees it carried, and off the queue of a.
        sentOffIn0(list + "hold n when carried m;", FLASHED, WAITS, FLASHED);
        sentOffIn0(list + "hold n when not carried m;", FLASHED, FLASHED, WAITS);
        sentOffIn0(list + "hold n when queue a=0;", FLASHED, WAITS, FLASHED);
        sentOffIn0(list + "hold n when queue a>0;", FLASHED, FLASHED, WAITS);
        // m comes ahead of n: it sees n wait still, whatever n does then.
        sentOffIn0(list + "hold m when carried n;", FLASHED, FLASHED, WAITS);
        sentOffIn0(list + "hold m when queue b=1;", WAITS, FLASHED, WAITS);
        // A message that is held stays on the queue for those behind it; it is on it itself.
        sentOffIn0(list + "hold m when 1=1;hold n when queue a=1;", WAITS, WAITS, FLASHED);
        sentOffIn0(list + "hold n when queue b=1;", FLASHED, WAITS, FLASHED);
        sentOffIn0(list + "hold n when queue b=0;", FLASHED, FLASHED, WAITS);
        // Step 1 is ahead of all turns: in 3 m comes, with none left, and o, behind n, frees q for it.
        Heliographs x = Check.taught(list + "hold n when not left m=0;");
        x.go(3);
        state(x, 0, FLASHED);
        state(x, 1, WAITS);
        x.go(1);
        Check.due("m came", 3, x.message(0, 7));
        Check.due("o came", 3, x.message(2, 7));
        state(x, 1, FLASHED);
    }

    private static void sentOffIn0(String list, int... due) {
        Heliographs x = Check.taught(list);
        x.go(1);
        for (int message = 0; message < due.length; message++) {
            Check.due("how message " + message + " is behind 1 minute of " + list, due[message], x.message(message, 3));
        }
    }

    private static void noOrderOfHold() {
        String list = AB + peak("c", 1) + "pass q between b and c far 1;message m words 3 at a to b due 0;"
                + "message n words 3 at b to c due 0;";
        sentOffIn0(list, FLASHED, FLASHED);
        sentOffIn0(list + "hold m when 1=1;", WAITS, FLASHED);
        sentOffIn0(list + "hold n when 1=1;", FLASHED, WAITS);
        sentOffIn0(list + "hold m when 1=2;hold m when 1=1;", WAITS, FLASHED);
        sentOffIn0(list + "hold m when 1=1;hold m when 1=2;", WAITS, FLASHED);
        sentOffIn0(list + "hold m when 1=2;hold n when 1=1;hold m when 1=2;", FLASHED, WAITS);
        // A message that is flashed is not held back.
        Heliographs x = Check.taught(list + "hold m when minute>0;");
        x.go(4);
        state(x, 0, THERE);
    }

    private static void mirrorsThatAreFree() {
        StringBuilder list = new StringBuilder();
        for (int i = 0; i < 5; i++) {
            list.append(peak("b" + i, 0) + "pass p" + i + " between b" + i + " and a far 1;message m" + i
                    + " words 2 at a to b" + i + " due 0;");
        }
        for (int mirrors = 0; mirrors <= 4; mirrors++) {
            Heliographs x = Check.taught(peak("a", mirrors) + list);
            x.go(1);
            Check.due("flashed with " + mirrors, mirrors, x.count(9));
            Check.due("waiting with " + mirrors, 5 - mirrors, x.count(8));
            Check.due("free with " + mirrors, 0, x.peak(0, 3));
            for (int message = 0; message < 5; message++) {
                state(x, message, message < mirrors ? FLASHED : WAITS);
            }
            // It is the peak from which it is flashed that needs one; with one more, one more is flashed.
            if (mirrors < 4) {
                x.mirror(0, true);
                x.go(1);
                Check.due("flashed with one more than " + mirrors, mirrors + 1, x.count(9));
            }
        }
        // In the minute in which a message comes its mirror is free again.
        Heliographs y = Check.taught(peak("a", 1) + list);
        y.go(2);
        state(y, 1, WAITS);
        y.go(1);
        state(y, 0, THERE);
        state(y, 1, FLASHED);
    }

    private static void wayInThisMinute() {
        // c has sun in 3 alone: m is sent off in 3, in which the way is there, though it is not any more in 4.
        Heliographs x = Check.taught(peak("a", 1) + peak("b", 1) + "peak c sun from 3 to 4 mirrors 1;"
                + "pass p between a and b far 1;pass q between b and c far 1;message m words 5 at a to c due 0;");
        x.go(3);
        state(x, 0, WAITS);
        x.go(1);
        state(x, 0, FLASHED);
        Check.due("over p", 0, x.message(0, 4));
        // p stays open: the words go on to b, and it waits there, as q is shut.
        x.go(5);
        state(x, 0, WAITS);
        Check.due("peak", 1, x.message(0, 1));
        Check.due("breaks", 0, x.message(0, 6));
    }

    private static void passInUse() {
        // From the same end, from the other end, and in the minute in which it gets free.
        for (String n : new String[] {"at a to b", "at b to a"}) {
            Heliographs x = Check.taught(peak("a", 2) + peak("b", 2) + "pass p between a and b far 1;pass q between a and b far 2;"
                    + "message m words 3 at a to b due 0;message n words 3 " + n + " due 0;");
            x.go(3);
            state(x, 0, FLASHED);
            state(x, 1, WAITS);
            Check.due("over q", -1, x.pass(1, 4));
            x.go(1);
            state(x, 0, THERE);
            state(x, 1, FLASHED);
            Check.due("over p", 1, x.pass(0, 4));
        }
        // Only the first pass of the way has to be free.
        Heliographs y = Check.taught(row(3, 1) + "message m words 9 at k1 to k2 due 0;message n words 9 at k0 to k2 due 0;");
        y.go(1);
        state(y, 0, FLASHED);
        state(y, 1, FLASHED);
    }

    private static void fromTheNextMinuteOn() {
        Heliographs x = Check.taught(AB + "message m words 2 at a to b due 0;");
        x.go(1);
        state(x, 0, FLASHED);
        Check.due("left behind the minute 0", 2, x.message(0, 5));
        Check.due("flashed in the minute 0", 0, x.pass(0, 5));
        x.go(1);
        Check.due("left behind the minute 1", 1, x.message(0, 5));
        Check.due("flashed in the minute 1", 1, x.pass(0, 5));
        x.go(1);
        state(x, 0, THERE);
        // A message of one word that is sent off in the minute in which it came waits for the next one as well.
        Heliographs y = Check.taught(row(8, 1) + "message m words 1 at k0 to k7 due 0;");
        for (int minute = 1; minute <= 8; minute++) {
            y.go(1);
            Check.due("peak behind " + minute, minute - 1, y.message(0, 1));
            state(y, 0, minute == 8 ? THERE : FLASHED);
        }
    }

    private static void minuteGoesOn() {
        Heliographs x = Check.taught(AB);
        for (int minutes : new int[] {1, 2, 240}) {
            int before = x.count(0);
            x.go(minutes);
            Check.due("minute behind go(" + minutes + ")", before + minutes, x.count(0));
        }
    }

    // ---- what tests tell

    private static void queue() {
        String list = peak("a", 0) + peak("b", 0) + "pass p between a and b far 1;message m words 1 at b to a due 0;";
        for (int count = 0; count <= 7; count++) {
            StringBuilder waiting = new StringBuilder();
            for (int i = 0; i < count; i++) {
                waiting.append("message n" + i + " words 1 at a to b due " + (i % 2 == 0 ? 999 : 0) + ";");
            }
            for (int asked = count - 1; asked <= count + 1; asked++) {
                Heliographs x = Check.taught(list + waiting + "hold m when queue a=" + asked + ";");
                x.mirror(1, true);
                x.go(1);
                state(x, 0, asked == count ? WAITS : FLASHED);
            }
        }
        // Messages that are flashed from there, or are there, do not wait there.
        Heliographs y = Check.taught(AB + peak("c", 1) + "pass q between a and c far 1;message m words 2 at a to b due 0;"
                + "message n words 1 at c to a due 0;message o words 9 at c to a due 4;hold o when not queue a=0;");
        y.go(5);
        state(y, 1, THERE);
        Check.due("n is at a", 0, y.message(1, 1));
        state(y, 2, FLASHED);
    }

    private static void left() {
        // m is sent off in 2, and flashed in 3, 4 and 5; n, behind it, shows what is left in step 2.
        int[] due = {3, 3, 3, 2, 1, 0, 0};
        for (int minute = 0; minute < due.length; minute++) {
            for (int asked = due[minute] - 1; asked <= due[minute] + 1; asked++) {
                Heliographs x = Check.taught(AB + peak("c", 1) + "pass q between c and b far 1;message m words 3 at a to b due 2;"
                        + "message n words 9 at c to b due " + minute + ";hold n when left m=" + asked + ";");
                x.go(minute + 1);
                state(x, 1, asked == due[minute] ? WAITS : FLASHED);
            }
        }
    }

    private static void breaks() {
        String list = AB + peak("c", 1) + "pass q between c and b far 1;message m words 9 at a to b due 0;"
                + "message n words 9 at c to b due 9;hold n when breaks m=";
        for (int stops = 0; stops <= 3; stops++) {
            for (int asked = stops - 1; asked <= stops + 1; asked++) {
                Heliographs x = Check.taught(list + asked + ";");
                for (int i = 0; i < 3; i++) {
                    x.go(2);
                    if (i < stops) {
                        x.stop(0);
                    }
                }
                x.go(4);
                state(x, 1, asked == stops ? WAITS : FLASHED);
            }
        }
        // As its pass closes it counts as well: p is cloudy in 2.
        Heliographs y = Check.taught(AB + peak("c", 1) + "pass q between c and b far 1;cloud over p every 60 for 1 from 58;"
                + "message m words 9 at a to b due 0;message n words 9 at c to b due 1;hold n when breaks m=0;");
        y.go(2);
        state(y, 1, WAITS);
        y.go(1);
        state(y, 1, FLASHED);
    }

    private static void open() {
        for (int minute = 2; minute <= 7; minute++) {
            String list = AB + "peak c sun from 3 to 6 mirrors 1;pass q between b and c far 1;message m words 1 at a to b due "
                    + minute + ";hold m when ";
            Heliographs x = Check.taught(list + "open q;");
            x.go(minute + 1);
            state(x, 0, minute >= 3 && minute < 6 ? WAITS : FLASHED);
            x = Check.taught(list + "not open q;");
            x.go(minute + 1);
            state(x, 0, minute >= 3 && minute < 6 ? FLASHED : WAITS);
        }
        // It is open, even if a message is flashed over it.
        Heliographs y = Check.taught(AB + "pass q between a and b far 1;message m words 9 at a to b due 0;"
                + "message n words 9 at b to a due 1;hold n when open p;");
        y.go(4);
        state(y, 1, WAITS);
    }

    private static void carried() {
        // m waits up to 1, is carried from its turn in 2 on, and is there in 4.
        boolean[] due = {false, false, true, true, false, false};
        for (int minute = 0; minute < due.length; minute++) {
            String list = AB + peak("c", 1) + "pass q between c and b far 1;message m words 2 at a to b due 2;"
                    + "message n words 9 at c to b due " + minute + ";hold n when ";
            Heliographs x = Check.taught(list + "carried m;");
            x.go(minute + 1);
            state(x, 1, due[minute] ? WAITS : FLASHED);
            x = Check.taught(list + "not carried m;");
            x.go(minute + 1);
            state(x, 1, due[minute] ? FLASHED : WAITS);
        }
        Check.due("carried itself", false, Check.isHeld("carried m", 0));
    }

    private static void bindsMore() {
        String[] sides = {"2<1", "1<2"};
        for (int i = 0; i < 8; i++) {
            boolean a = (i & 1) != 0;
            boolean b = (i & 2) != 0;
            boolean c = (i & 4) != 0;
            String x = sides[i & 1];
            String y = sides[i >> 1 & 1];
            String z = sides[i >> 2];
            holds(x + " and " + y + " or " + z, a && b || c);
            holds(x + " or " + y + " and " + z, a || b && c);
            holds("[" + x + " or " + y + "] and " + z, (a || b) && c);
            holds("not " + x + " and " + y, !a && b);
            holds("not " + x + " or " + y, !a || b);
            holds("not [" + x + " and " + y + "]", !(a && b));
            holds("not [" + x + " or " + y + "]", !(a || b));
            holds("not " + x + " and not " + y + " or not " + z, !a && !b || !c);
            holds(x + " or not " + y + " and " + z, a || !b && c);
        }
    }

    private static void holds(String test, boolean due) {
        Check.due(test, due, Check.isHeld(test, 0));
    }

    private static void comparisons() {
        for (int one = -1; one <= 1; one++) {
            for (int other = -1; other <= 1; other++) {
                holds(one + "<" + other, one < other);
                holds(one + ">" + other, one > other);
                holds(one + "=" + other, one == other);
                holds(one + "<=" + other, one <= other);
                holds(one + ">=" + other, one >= other);
                holds("not " + one + "<" + other, one >= other);
                holds("not " + one + ">" + other, one <= other);
                holds("not " + one + "=" + other, one != other);
                holds("not " + one + "<=" + other, one > other);
                holds("not " + one + ">=" + other, one < other);
                holds("min(" + one + "," + other + ")=" + Math.min(one, other), true);
                holds("max(" + one + "," + other + ")=" + Math.max(one, other), true);
                holds("min(" + one + "," + other + ")=" + (Math.min(one, other) + 1), false);
                holds("max(" + one + "," + other + ")=" + (Math.max(one, other) - 1), false);
            }
        }
    }
}
