import java.util.function.Consumer;
import java.util.function.IntConsumer;

/** The edges that the document names with the calls: what each promise takes, refuses and answers at its bounds. */
public final class CallEdgeTest {
    private static final int LEAST = Integer.MIN_VALUE;
    private static final int MOST = Integer.MAX_VALUE;
    private static final String AB = peak("a", 1) + peak("b", 1) + "pass p between a and b far 1;";

    public static void main(String[] args) {
        language();
        whatThereIs();
        byHandAndMinutes();
        whatWouldBe();
        Check.end();
    }

    private static void language() {
        Check.sentence("Creates a chain without peaks, in the minute 0", CallEdgeTest::newObject);
        Check.sentence("the four bytes of each number, the highest one first", CallEdgeTest::feedsHighestFirst);
        Check.sentence("IllegalStateException if there would be more than 2000", CallEdgeTest::feedRefuses);
        Check.sentence("Shortens the tape to its first bytes", CallEdgeTest::trimKeepsTheFirst);
        Check.sentence("IllegalArgumentException if n is not 0 to the number of bytes of the tape", CallEdgeTest::trimRefuses);
        Check.sentence("in the place of all that was told before; all begins anew, but the minute, which stays",
                CallEdgeTest::teachBeginsAnew);
        Check.sentence("If it has an error, all stays (but the tape is empty)", CallEdgeTest::teachWithAnError);
        Check.sentence("Returns 0, or the error, 1 to 5", CallEdgeTest::teachReturns);
        Check.sentence("-1 if it had none, or there was none", CallEdgeTest::errorAtOfNone);
        Check.sentence("IndexOutOfBoundsException if what is not 0 to 13", CallEdgeTest::countRefuses);
        Check.sentence("1 peaks, 2 passes, 3 clouds, 4 messages, 5 holds, 6 peaks that have sun now, 7 passes that are open now",
                CallEdgeTest::countEmptyAndFull);
        Check.sentence("8 messages that wait, 9 messages that are flashed, 10 messages that are there",
                CallEdgeTest::countMessages);
        Check.sentence("11 how often flashing broke off in all, 12 words that were lost in all, 13 bytes of the tape",
                CallEdgeTest::countInAll);
    }

    private static void whatThereIs() {
        Check.sentence("if there is no such peak, or what is not 0 to 6", CallEdgeTest::peakRefuses);
        Check.sentence("5 passes that it has, 6 those of them that are open now", CallEdgeTest::passesOfAPeak);
        Check.sentence("3 mirrors that are free, 4 messages that wait there", CallEdgeTest::mirrorsAndQueueOfAPeak);
        Check.sentence("if there is no such pass, or what is not 0 to 5", CallEdgeTest::passRefuses);
        Check.sentence("if there is no such message, or what is not 0 to 8", CallEdgeTest::messageRefuses);
        Check.sentence("2 its far, 3 its clouds", CallEdgeTest::cloudsOfAPass);
        Check.sentence("5 words that were flashed over it in all, those as well that were lost", CallEdgeTest::wordsOverAPass);
        Check.sentence("-1 for none", CallEdgeTest::noneIsFlashed);
        Check.sentence("7 the minute in which it came to where it goes, -1 if it did not", CallEdgeTest::didNotCome);
        Check.sentence("hasSun: IllegalArgumentException if minute is not 0 to 9999", CallEdgeTest::hasSunRefuses);
        Check.sentence("isOpen: IllegalArgumentException if minute is not 0 to 9999", CallEdgeTest::isOpenRefuses);
        Check.sentence("0, if both are the same; -1 if there is none", CallEdgeTest::wayOfNone);
        Check.sentence("-1 if both are the same, or there is none", CallEdgeTest::firstOfNone);
        Check.sentence("way, first: IndexOutOfBoundsException if there is no such peak", CallEdgeTest::waysRefuse);
    }

    private static void byHandAndMinutes() {
        Check.sentence("mirror: IndexOutOfBoundsException if there is no such peak", CallEdgeTest::mirrorOfNoPeak);
        Check.sentence("IllegalStateException if it has 4", CallEdgeTest::mirrorOfFour);
        Check.sentence("or, to take one away, none", CallEdgeTest::mirrorOfNone);
        Check.sentence("or none that is free", CallEdgeTest::mirrorOfNoneFree);
        Check.sentence("stop: if there is no such message .. if it is not flashed", CallEdgeTest::stopRefuses);
        Check.sentence("it waits, as if its pass had closed .. Returns how many words were left", CallEdgeTest::stopBreaksOff);
        Check.sentence("forward: if there is no such message, or no such peak .. at that peak .. not there",
                CallEdgeTest::forwardRefuses);
        Check.sentence("the minute in which it came is -1 then, breaks and passes go on", CallEdgeTest::forwardGoesOn);
        Check.sentence("go: IllegalArgumentException if minutes is not 1 to 240", CallEdgeTest::goRefuses);
        Check.sentence("Returns how many messages come to where they go", CallEdgeTest::goReturns);
    }

    private static void whatWouldBe() {
        Check.sentence("0 if it is now, at most 360; -1 if not by then (nothing is changed)", CallEdgeTest::untilAtMost);
        Check.sentence("until: IndexOutOfBoundsException if there is no such message", CallEdgeTest::untilRefuses);
        Check.sentence("0 if in the minute of now, at most 240; -1 if not by then", CallEdgeTest::opensAtMost);
        Check.sentence("opens: IndexOutOfBoundsException if there is no such pass", CallEdgeTest::opensRefuses);
        Check.sentence("minutes: how many, 1 to 240 .. what: 8 to 12 as count() has it", CallEdgeTest::foreseeRefuses);
        Check.sentence("Returns this, behind so many minutes, if nothing is done by hand (nothing is changed)",
                CallEdgeTest::foreseeAtMost);
        Check.sentence("missed: IllegalArgumentException if minutes is not 1 to 240", CallEdgeTest::missedRefuses);
        Check.sentence("the pass without which (it is never open) the fewest messages are there", CallEdgeTest::missedIsNeverOpen);
        Check.sentence("missed: of several the one with the smallest number; -1 without passes", CallEdgeTest::missedOfSeveral);
        Check.sentence("advise: IllegalArgumentException if minutes is not 1 to 240", CallEdgeTest::adviseRefuses);
        Check.sentence("a mirror more now (however many it has)", CallEdgeTest::adviseHoweverMany);
        Check.sentence("-1 without peaks, or if by none there are more than without", CallEdgeTest::adviseOfSeveral);
        Check.sentence("those as well that are there; 0 without messages", CallEdgeTest::meanOfNone);
        Check.sentence("A number d starts with 863 .. wraps around as a 64-bit integer", CallEdgeTest::digestWrapsAround);
    }

    private static String peak(String name, int mirrors) {
        return "peak " + name + " sun from 0 to 120 mirrors " + mirrors + ";";
    }

    private static void refused(String what, int want, Consumer<Heliographs> call) {
        Check.refused(what, want, Twins::busy, call);
    }

    /** All that is asked leaves the object as it was. */
    private static void changesNothing(String what, Consumer<Heliographs> call) {
        Check.refused(what, Check.NOTHING, Twins::busy, call);
    }

    private static void each(int[] numbers, IntConsumer test) {
        for (int number : numbers) {
            test.accept(number);
        }
    }

    // ---- the language

    private static void newObject() {
        Heliographs x = new Heliographs();
        for (int what = 0; what <= 13; what++) {
            Check.due("count(" + what + ")", 0, x.count(what));
        }
        Check.due("errorAt()", -1, x.errorAt());
        Check.due("missed(240)", -1, x.missed(240));
        Check.due("advise(240)", -1, x.advise(240));
        Check.due("mean()", 0.0, x.mean());
        for (int what = 8; what <= 12; what++) {
            Check.due("foresee(240, " + what + ")", 0, x.foresee(240, what));
        }
        Check.refused("peak(0, 0) of a new one", Check.INDEX, Heliographs::new, y -> y.peak(0, 0));
        Check.refused("pass(0, 0) of a new one", Check.INDEX, Heliographs::new, y -> y.pass(0, 0));
        Check.refused("message(0, 0) of a new one", Check.INDEX, Heliographs::new, y -> y.message(0, 0));
        Check.refused("hasSun(0, 0) of a new one", Check.INDEX, Heliographs::new, y -> y.hasSun(0, 0));
        Check.refused("isOpen(0, 0) of a new one", Check.INDEX, Heliographs::new, y -> y.isOpen(0, 0));
        Check.refused("way(0, 0) of a new one", Check.INDEX, Heliographs::new, y -> y.way(0, 0));
        Check.refused("first(0, 0) of a new one", Check.INDEX, Heliographs::new, y -> y.first(0, 0));
        Check.refused("mirror(0, true) of a new one", Check.INDEX, Heliographs::new, y -> y.mirror(0, true));
        Check.refused("mirror(0, false) of a new one", Check.INDEX, Heliographs::new, y -> y.mirror(0, false));
        Check.refused("stop(0) of a new one", Check.INDEX, Heliographs::new, y -> y.stop(0));
        Check.refused("forward(0, 0) of a new one", Check.INDEX, Heliographs::new, y -> y.forward(0, 0));
        Check.refused("until(0) of a new one", Check.INDEX, Heliographs::new, y -> y.until(0));
        Check.refused("opens(0) of a new one", Check.INDEX, Heliographs::new, y -> y.opens(0));
        // Nothing of one object is of another one.
        Heliographs one = Twins.busy();
        Check.due("peaks of the one", 3, one.count(1));
        Check.due("peaks of a new one", 0, new Heliographs().count(1));
        Check.due("bytes of a new one", 0, new Heliographs().count(13));
    }

    private static void feedsHighestFirst() {
        // Each of the twenty bytes is the first wrong one in its turn, as all ahead of it are blanks.
        for (int place = 0; place < 20; place++) {
            int[] fed = {0x20202020, 0x20202020, 0x20202020, 0x20202020, 0x20202020};
            fed[place / 4] ^= (0x20 ^ 0xff) << 8 * (3 - place % 4);
            Heliographs x = new Heliographs();
            Check.due("feed()", 20, x.feed(fed[0], fed[1], fed[2], fed[3], fed[4]));
            Check.due("teach()", 1, x.teach());
            Check.due("errorAt() with byte " + place, place, x.errorAt());
        }
        // All signs of numbers: those below 0 have a highest byte of 128 or more, which begins no token.
        Heliographs y = new Heliographs();
        y.feed(0x20202020, LEAST, MOST, -1, 0);
        Check.due("teach()", 1, y.teach());
        Check.due("errorAt()", 4, y.errorAt());
    }

    private static void feedRefuses() {
        for (int length : new int[] {1981, 1999, 2000}) {
            Check.refused("feed() behind " + length, Check.STATE, () -> withTape(length), x -> x.feed(1, 2, 3, 4, 5));
        }
        for (int length : new int[] {0, 1, 1979, 1980}) {
            Heliographs x = withTape(length);
            Check.due("feed() behind " + length, length + 20, x.feed(1, 2, 3, 4, 5));
            Check.due("bytes", length + 20, x.count(13));
        }
    }

    /** An object with peaks, a minute and an error, and with so many bytes on the tape, all blanks. */
    private static Heliographs withTape(int length) {
        Heliographs x = Check.taught(AB);
        x.go(3);
        Check.due("an error", 1, Check.teach(x, "pass q ?"));
        Check.feed(x, " ".repeat(length));
        return x;
    }

    private static void trimKeepsTheFirst() {
        String list = peak("a", 1) + peak("b", 2);
        for (int kept = 0; kept <= list.length(); kept++) {
            Heliographs x = new Heliographs();
            Check.feed(x, list);
            Check.due("trim(" + kept + ")", kept, x.trim(kept));
            Check.due("bytes", kept, x.count(13));
            boolean isGood = kept == 0 || kept == list.length() / 2 || kept == list.length();
            Check.due("teach() of the first " + kept, isGood ? 0 : 1, x.teach());
            Check.due("peaks of the first " + kept, isGood ? kept * 2 / list.length() : 0, x.count(1));
        }
        // What was cut off does not come back, and what is fed stands behind what was kept.
        Heliographs y = new Heliographs();
        Check.feed(y, "?????");
        y.trim(0);
        Check.feed(y, peak("a", 1) + "?");
        y.trim(peak("a", 1).length());
        Check.feed(y, peak("b", 1));
        Check.due("teach()", 0, y.teach());
        Check.due("peaks", 2, y.count(1));
    }

    private static void trimRefuses() {
        for (int n : new int[] {-1, LEAST, 34, 35, MOST}) {
            refused("trim(" + n + ") of 33", Check.ARGUMENT, x -> x.trim(n));
        }
        for (int n : new int[] {0, 1, 32, 33}) {
            Check.due("trim(" + n + ") of 33", n, Twins.busy().trim(n));
        }
        changesNothing("trim(33) of 33", x -> x.trim(33));
        for (int n : new int[] {-1, 1, LEAST, MOST}) {
            Check.refused("trim(" + n + ") of none", Check.ARGUMENT, Heliographs::new, x -> x.trim(n));
        }
        Check.due("trim(0) of none", 0, new Heliographs().trim(0));
        Check.refused("trim(2001) of 2000", Check.ARGUMENT, () -> withTape(2000), x -> x.trim(2001));
        Check.due("trim(2000) of 2000", 2000, withTape(2000).trim(2000));
        Check.due("trim(1999) of 2000", 1999, withTape(2000).trim(1999));
    }

    private static void teachBeginsAnew() {
        String list = "peak a sun from 0 to 120 mirrors 2;peak b sun from 0 to 60 mirrors 1;pass ab between a and b far 7;"
                + "message m words 4 at a to b due 0;message n words 9 at b to a due 999;hold n when 1=1;";
        Heliographs x = Twins.busy();
        x.mirror(0, true);
        x.stop(1);
        x.trim(0);
        Check.due("teach()", 0, Check.teach(x, list));
        Heliographs due = new Heliographs();
        due.go(6);
        Check.due("teach()", 0, Check.teach(due, list));
        Twins.alike("behind a list, with one that had another list", due, x);
        // The empty list takes all away.
        Heliographs y = Twins.busy();
        y.trim(0);
        Check.due("teach()", 0, y.teach());
        Heliographs empty = new Heliographs();
        empty.go(6);
        Twins.alike("behind the empty list", empty, y);
        // The minute stays whatever it is: 0, 240, and when the list ahead was refused.
        Heliographs z = Check.taught(AB);
        Check.due("minute", 0, z.count(0));
        z.go(240);
        Check.due("teach()", 1, Check.teach(z, "?"));
        Check.due("teach()", 0, Check.teach(z, AB));
        Check.due("minute", 240, z.count(0));
    }

    private static void teachWithAnError() {
        String[] lists = {"?", AB + AB, AB + "pass q between a and z far 1;", peak("a", 1) + "peak a sun from 0 to 0 mirrors 0;",
            "peak a sun from 0 to 121 mirrors 0;", AB + "hold z when 1=1;", AB + AB.replace("peak ", "peak x") + "peak"};
        for (String list : lists) {
            Heliographs x = Twins.busy();
            x.trim(0);
            Check.due(list + " has an error", true, Check.teach(x, list) > 0);
            Check.due("bytes", 0, x.count(13));
            Heliographs due = Twins.busy();
            due.trim(0);
            Twins.alikeButErrorAt("behind " + list, due, x);
        }
        // A list of eight peaks, twelve passes and so on that is refused leaves nothing behind.
        StringBuilder large = new StringBuilder();
        for (int i = 0; i < 8; i++) {
            large.append("peak k").append(i).append(" sun from 5 to 6 mirrors 3;");
        }
        for (int i = 0; i < 12; i++) {
            large.append("pass k").append(i).append(" between k0 and k1 far 2;");
        }
        for (int i = 0; i < 8; i++) {
            large.append("message k").append(i).append(" words 2 at k1 to k0 due 7;hold k").append(i).append(" when 1=1;");
        }
        Heliographs y = Twins.busy();
        y.trim(0);
        Check.due("teach()", 1, Check.teach(y, large + "cloud"));
        Heliographs due = Twins.busy();
        due.trim(0);
        Twins.alikeButErrorAt("behind a large list", due, y);
    }

    private static void teachReturns() {
        Heliographs x = new Heliographs();
        Check.due("no error", 0, Check.teach(x, AB));
        Check.due("error 1", 1, Check.teach(x, AB + "?"));
        Check.due("error 2", 2, Check.teach(x, AB + peak("a", 1)));
        Check.due("error 3", 3, Check.teach(x, AB + "hold m when 1=1;"));
        StringBuilder nine = new StringBuilder();
        for (int i = 0; i < 9; i++) {
            nine.append(peak("k" + i, 1));
        }
        Check.due("error 4", 4, Check.teach(x, nine.toString()));
        Check.due("error 5", 5, Check.teach(x, peak("a", 5)));
        Check.due("no error again", 0, Check.teach(x, AB));
    }

    private static void errorAtOfNone() {
        Heliographs x = new Heliographs();
        Check.due("errorAt() ahead of any list", -1, x.errorAt());
        x.feed(-1, -1, -1, -1, -1);
        Check.due("errorAt() with a tape", -1, x.errorAt());
        x.teach();
        Check.due("errorAt() of the first byte", 0, x.errorAt());
        Check.due("errorAt() asked again", 0, x.errorAt());
        x.feed(0x20202020, 0x20202020, 0x20202020, 0x20202020, 0x20202020);
        x.trim(7);
        Check.due("errorAt() with another tape", 0, x.errorAt());
        x.go(1);
        Check.due("errorAt() behind a minute", 0, x.errorAt());
        x.teach();
        Check.due("errorAt() of one without", -1, x.errorAt());
        Check.teach(x, AB + "peak");
        Check.due("errorAt() at the end", AB.length() + 4, x.errorAt());
        x.teach();
        Check.due("errorAt() of the empty list", -1, x.errorAt());
    }

    private static void countRefuses() {
        for (int what : new int[] {-1, 14, 15, LEAST, MOST}) {
            refused("count(" + what + ")", Check.INDEX, x -> x.count(what));
        }
        Heliographs x = Twins.busy();
        int[] due = {6, 3, 3, 1, 3, 1, 3, 2, 1, 1, 1, 1, 1, 33};
        for (int what = 0; what <= 13; what++) {
            Check.due("count(" + what + ")", due[what], x.count(what));
        }
        for (int what = 0; what <= 13; what++) {
            int asked = what;
            changesNothing("count(" + what + ")", y -> y.count(asked));
        }
    }

    /** Eight peaks in a ring of passes, four passes more, and a message from each peak to the next one. */
    private static String ring() {
        StringBuilder list = new StringBuilder();
        for (int i = 0; i < 8; i++) {
            list.append(peak("k" + i, 1));
        }
        for (int i = 0; i < 12; i++) {
            list.append("pass p" + i + " between k" + i % 8 + " and k" + (i + 1) % 8 + " far 1;");
        }
        for (int i = 0; i < 8; i++) {
            list.append("message m" + i + " words 1 at k" + i + " to k" + (i + 1) % 8 + " due 0;");
        }
        return list.toString();
    }

    private static void countEmptyAndFull() {
        // All clouds lie in 1 and not in 0; all holds hold.
        Heliographs cloudy = Check.taught(ring() + "cloud over p11 every 2 for 1 from 1;".repeat(8));
        int[] due = {0, 8, 12, 8, 8, 0, 8, 12};
        for (int what = 0; what < due.length; what++) {
            Check.due("count(" + what + ") of a full list", due[what], cloudy.count(what));
        }
        cloudy.go(1);
        Check.due("passes that are open in 1", 11, cloudy.count(7));
        Heliographs held = Check.taught(ring() + "hold m7 when 1=1;".repeat(12));
        Check.due("holds of a full list", 12, held.count(5));
        Check.due("clouds of it", 0, held.count(3));
        Heliographs night = Check.taught(ring().replace("from 0 to 120", "from 1 to 2"));
        Check.due("peaks that have sun in 0", 0, night.count(6));
        Check.due("passes that are open in 0", 0, night.count(7));
        night.go(1);
        Check.due("peaks that have sun in 1", 8, night.count(6));
        Check.due("passes that are open in 1", 12, night.count(7));
        night.go(1);
        Check.due("peaks that have sun in 2", 0, night.count(6));
        Check.due("passes that are open in 2", 0, night.count(7));
        Heliographs one = Check.taught(peak("a", 1));
        int[] alone = {0, 1, 0, 0, 0, 0, 1, 0, 0, 0, 0, 0, 0, 0};
        for (int what = 0; what < alone.length; what++) {
            Check.due("count(" + what + ") of one peak", alone[what], one.count(what));
        }
    }

    private static void countMessages() {
        Heliographs x = Check.taught(ring());
        int[][] due = {{8, 0, 0}, {0, 8, 0}, {0, 0, 8}, {0, 0, 8}};
        for (int minute = 0; minute < due.length; minute++) {
            for (int i = 0; i < 3; i++) {
                Check.due("count(" + (8 + i) + ") in " + minute, due[minute][i], x.count(8 + i));
            }
            x.go(1);
        }
        // Sent on, one waits again; with a mirror less, one does not go.
        x.forward(7, 1);
        Check.due("messages that wait", 1, x.count(8));
        Check.due("messages that are there", 7, x.count(10));
        Heliographs y = Check.taught(ring());
        y.mirror(3, false);
        y.go(1);
        Check.due("messages that wait", 1, y.count(8));
        Check.due("messages that are flashed", 7, y.count(9));
    }

    private static void countInAll() {
        // Two messages break off, one of them twice, and one loses words: what is in all is added.
        Heliographs x = Check.taught(peak("a", 4) + peak("b", 4) + "pass p between a and b far 7;pass q between a and b far 9;"
                + peak("c", 0) + "pass r between a and c far 20;message m words 4 at a to b due 0;message n words 4 at a to c due 0;");
        x.go(2);
        Check.due("lost by both in 1", 2, x.count(12));
        x.stop(0);
        x.stop(1);
        Check.due("broken off", 2, x.count(11));
        x.go(1);
        x.stop(0);
        Check.due("broken off", 3, x.count(11));
        Check.due("lost", 2, x.count(12));
        x.go(9);
        Check.due("there", 2, x.count(10));
        Check.due("broken off, when both are there", 3, x.count(11));
        Check.due("lost, when both are there", x.pass(0, 5) + x.pass(1, 5) + x.pass(2, 5) - 8, x.count(12));
    }

    // ---- what there is

    private static String large() {
        StringBuilder list = new StringBuilder();
        for (int i = 0; i < 8; i++) {
            list.append(peak("k" + i, i % 5));
        }
        for (int i = 0; i < 12; i++) {
            list.append("pass k" + i + " between k" + i % 8 + " and k" + (i + 1) % 8 + " far " + (i + 1) + ";");
        }
        for (int i = 0; i < 8; i++) {
            list.append("message k" + i + " words " + (i + 1) + " at k" + i + " to k" + (i + 2) % 8 + " due 9;");
        }
        return list.toString();
    }

    private static void peakRefuses() {
        for (int peak : new int[] {-1, 3, 4, 8, LEAST, MOST}) {
            refused("peak(" + peak + ", 0)", Check.INDEX, x -> x.peak(peak, 0));
            refused("peak(" + peak + ", 7)", Check.INDEX, x -> x.peak(peak, 7));
        }
        for (int what : new int[] {-1, 7, 8, LEAST, MOST}) {
            refused("peak(0, " + what + ")", Check.INDEX, x -> x.peak(0, what));
            refused("peak(2, " + what + ")", Check.INDEX, x -> x.peak(2, what));
        }
        changesNothing("peak(2, 6)", x -> x.peak(2, 6));
        Heliographs x = Twins.busy();
        int[][] due = {{0, 120, 2, 2, 0, 2, 2}, {0, 60, 1, 0, 0, 2, 1}, {0, 120, 4, 4, 1, 2, 1}};
        for (int peak = 0; peak < 3; peak++) {
            for (int what = 0; what <= 6; what++) {
                Check.due("peak(" + peak + ", " + what + ")", due[peak][what], x.peak(peak, what));
            }
        }
        // In the minute 6 bc is cloudy, and up to 8.
        x.go(2);
        Check.due("passes of b that are open in 8", 1, x.peak(1, 6));
        x.go(1);
        Check.due("passes of a that are open in 9", 2, x.peak(0, 6));
        Check.due("passes of b that are open in 9", 2, x.peak(1, 6));
        Check.due("passes of c that are open in 9", 2, x.peak(2, 6));
        Heliographs y = Check.taught(large());
        Check.due("mirrors of the last peak", 2, y.peak(7, 2));
        Check.refuses(y, "peak(8, 2) of eight", Check.INDEX, () -> y.peak(8, 2));
        Check.due("passes of k0", 3, y.peak(0, 5));
    }

    private static void passesOfAPeak() {
        for (int count : new int[] {0, 1, 2, 11, 12}) {
            StringBuilder list = new StringBuilder(peak("a", 1) + peak("b", 1) + "peak c sun from 1 to 2 mirrors 1;");
            for (int i = 0; i < count; i++) {
                list.append("pass p" + i + " between " + (i % 2 == 0 ? "a and b" : "c and a") + " far 1;");
            }
            Heliographs x = Check.taught(list.toString());
            int open = (count + 1) / 2;
            Check.due("passes of a, of " + count, count, x.peak(0, 5));
            Check.due("passes of b, of " + count, open, x.peak(1, 5));
            Check.due("passes of c, of " + count, count - open, x.peak(2, 5));
            Check.due("passes of a that are open in 0, of " + count, open, x.peak(0, 6));
            Check.due("passes of b that are open in 0, of " + count, open, x.peak(1, 6));
            Check.due("passes of c that are open in 0, of " + count, 0, x.peak(2, 6));
            x.go(1);
            Check.due("passes of a that are open in 1, of " + count, count, x.peak(0, 6));
            Check.due("passes of c that are open in 1, of " + count, count - open, x.peak(2, 6));
        }
    }

    private static void mirrorsAndQueueOfAPeak() {
        // Eight messages, five peaks to go to: as many are flashed as there are mirrors, the others wait.
        StringBuilder list = new StringBuilder();
        for (int i = 0; i < 5; i++) {
            list.append(peak("b" + i, 4) + "pass p" + i + " between a and b" + i + " far 1;");
        }
        for (int i = 0; i < 8; i++) {
            list.append("message m" + i + " words 9 at a to b" + i % 5 + " due 0;");
        }
        for (int mirrors = 0; mirrors <= 4; mirrors++) {
            Heliographs x = Check.taught(peak("a", mirrors) + list);
            Check.due("mirrors that are free at first, of " + mirrors, mirrors, x.peak(0, 3));
            Check.due("messages that wait at first", 8, x.peak(0, 4));
            Check.due("messages that wait at b0", 0, x.peak(1, 4));
            x.go(1);
            Check.due("mirrors that are free, of " + mirrors, 0, x.peak(0, 3));
            Check.due("messages that wait, with " + mirrors, 8 - mirrors, x.peak(0, 4));
            Check.due("mirrors of b0 that are free", 4, x.peak(1, 3));
            if (mirrors > 0) {
                x.stop(0);
                Check.due("mirrors that are free with one stopped, of " + mirrors, 1, x.peak(0, 3));
                Check.due("messages that wait with one stopped", 9 - mirrors, x.peak(0, 4));
            }
            x.go(12);
            Check.due("messages that wait at b0, as those that are there do not", 0, x.peak(1, 4));
        }
    }

    private static void cloudsOfAPass() {
        for (int count : new int[] {0, 1, 7, 8}) {
            Heliographs x = Check.taught(AB + "pass q between b and a far 20;" + "cloud over q every 2 for 1 from 1;".repeat(count));
            Check.due("clouds of p, of " + count, 0, x.pass(0, 3));
            Check.due("clouds of q, of " + count, count, x.pass(1, 3));
            Check.due("far of p", 1, x.pass(0, 2));
            Check.due("far of q", 20, x.pass(1, 2));
        }
    }

    private static void wordsOverAPass() {
        // Of 4 words the first one is lost in 1, so that 5 are flashed; then those of the way back.
        Heliographs x = Check.taught(peak("a", 1) + peak("b", 1) + "pass p between a and b far 7;message m words 4 at a to b due 0;");
        int[] due = {0, 0, 1, 2, 3, 4, 5, 5};
        for (int minute = 0; minute < due.length; minute++) {
            Check.due("words over p in " + minute, due[minute], x.pass(0, 5));
            x.go(1);
        }
        Check.due("lost", 1, x.count(12));
        x.forward(0, 0);
        x.go(9);
        Check.due("m is back", 0, x.message(0, 1));
        Check.due("words over p, both ways", 8 + x.count(12), x.pass(0, 5));
    }

    private static void passRefuses() {
        for (int pass : new int[] {-1, 3, 4, 12, LEAST, MOST}) {
            refused("pass(" + pass + ", 0)", Check.INDEX, x -> x.pass(pass, 0));
            refused("pass(" + pass + ", 6)", Check.INDEX, x -> x.pass(pass, 6));
        }
        for (int what : new int[] {-1, 6, 7, LEAST, MOST}) {
            refused("pass(0, " + what + ")", Check.INDEX, x -> x.pass(0, what));
            refused("pass(2, " + what + ")", Check.INDEX, x -> x.pass(2, what));
        }
        changesNothing("pass(2, 5)", x -> x.pass(2, 5));
        Heliographs x = Twins.busy();
        int[][] due = {{0, 1, 7, 0, -1, 5}, {1, 2, 2, 1, 1, 4}, {0, 2, 20, 0, -1, 0}};
        for (int pass = 0; pass < 3; pass++) {
            for (int what = 0; what <= 5; what++) {
                Check.due("pass(" + pass + ", " + what + ")", due[pass][what], x.pass(pass, what));
            }
        }
        Heliographs y = Check.taught(large());
        Check.due("far of the last pass", 12, y.pass(11, 2));
        Check.refuses(y, "pass(12, 2) of twelve", Check.INDEX, () -> y.pass(12, 2));
    }

    private static void messageRefuses() {
        for (int message : new int[] {-1, 3, 4, 8, LEAST, MOST}) {
            refused("message(" + message + ", 0)", Check.INDEX, x -> x.message(message, 0));
            refused("message(" + message + ", 9)", Check.INDEX, x -> x.message(message, 9));
        }
        for (int what : new int[] {-1, 9, 10, LEAST, MOST}) {
            refused("message(0, " + what + ")", Check.INDEX, x -> x.message(0, what));
            refused("message(2, " + what + ")", Check.INDEX, x -> x.message(2, what));
        }
        changesNothing("message(2, 8)", x -> x.message(2, 8));
        Heliographs x = Twins.busy();
        int[][] due = {{4, 1, 1, 2, -1, 0, 0, 5, 1}, {9, 1, 2, 1, 1, 6, 1, -1, 0}, {3, 2, 0, 0, -1, 3, 0, -1, 0}};
        for (int message = 0; message < 3; message++) {
            for (int what = 0; what <= 8; what++) {
                Check.due("message(" + message + ", " + what + ")", due[message][what], x.message(message, what));
            }
        }
        Heliographs y = Check.taught(large());
        Check.due("words of the last message", 8, y.message(7, 0));
        Check.refuses(y, "message(8, 0) of eight", Check.INDEX, () -> y.message(8, 0));
    }

    private static void noneIsFlashed() {
        Heliographs x = Check.taught(AB + "message m words 2 at a to b due 1;");
        int[] message = {-1, 0, 0, -1, -1};
        int[] pass = {-1, 0, 0, -1, -1};
        x.go(1);
        for (int minute = 0; minute < message.length; minute++) {
            Check.due("pass over which m is flashed, behind " + (minute + 1), message[minute], x.message(0, 4));
            Check.due("message over p, behind " + (minute + 1), pass[minute], x.pass(0, 4));
            x.go(1);
        }
    }

    private static void didNotCome() {
        Heliographs x = Check.taught(AB + "message m words 1 at a to b due 0;message n words 1 at a to b due 0;");
        Check.due("at first", -1, x.message(0, 7));
        x.go(1);
        Check.due("flashed", -1, x.message(0, 7));
        x.go(1);
        Check.due("there", 1, x.message(0, 7));
        Check.due("the other one", -1, x.message(1, 7));
        x.forward(0, 0);
        Check.due("sent on", -1, x.message(0, 7));
        // It can not come in 0, but is sent off in 0: the earliest minute is 1.
        Check.due("the earliest minute", 1, Check.taught(AB + "message m words 1 at a to b due 0;").until(0) - 1);
    }

    private static void hasSunRefuses() {
        for (int minute : new int[] {-1, 10000, 10001, LEAST, MOST}) {
            refused("hasSun(1, " + minute + ")", Check.ARGUMENT, x -> x.hasSun(1, minute));
            refused("hasSun(3, " + minute + ")", Check.INDEX, x -> x.hasSun(3, minute));
        }
        for (int peak : new int[] {-1, 3, 8, LEAST, MOST}) {
            refused("hasSun(" + peak + ", 0)", Check.INDEX, x -> x.hasSun(peak, 0));
            refused("hasSun(" + peak + ", -1)", Check.INDEX, x -> x.hasSun(peak, -1));
        }
        changesNothing("hasSun(1, 9999)", x -> x.hasSun(1, 9999));
        // 9999 is the minute 39 of its day.
        Heliographs x = Check.taught("peak a sun from 39 to 40 mirrors 1;peak b sun from 38 to 39 mirrors 1;"
                + "peak c sun from 0 to 1 mirrors 1;");
        Check.due("hasSun(0, 9999)", true, x.hasSun(0, 9999));
        Check.due("hasSun(0, 9998)", false, x.hasSun(0, 9998));
        Check.due("hasSun(1, 9999)", false, x.hasSun(1, 9999));
        Check.due("hasSun(1, 9998)", true, x.hasSun(1, 9998));
        Check.due("hasSun(2, 0)", true, x.hasSun(2, 0));
        Check.due("hasSun(2, 1)", false, x.hasSun(2, 1));
        // It is the minute that is asked, and not that of now.
        x.go(39);
        Check.due("hasSun(2, 0) in 39", true, x.hasSun(2, 0));
        Check.due("hasSun(0, 0) in 39", false, x.hasSun(0, 0));
    }

    private static void isOpenRefuses() {
        for (int minute : new int[] {-1, 10000, 10001, LEAST, MOST}) {
            refused("isOpen(1, " + minute + ")", Check.ARGUMENT, x -> x.isOpen(1, minute));
            refused("isOpen(3, " + minute + ")", Check.INDEX, x -> x.isOpen(3, minute));
        }
        for (int pass : new int[] {-1, 3, 12, LEAST, MOST}) {
            refused("isOpen(" + pass + ", 0)", Check.INDEX, x -> x.isOpen(pass, 0));
            refused("isOpen(" + pass + ", -1)", Check.INDEX, x -> x.isOpen(pass, -1));
        }
        changesNothing("isOpen(1, 9999)", x -> x.isOpen(1, 9999));
        Heliographs x = Check.taught("peak a sun from 0 to 40 mirrors 1;peak b sun from 39 to 120 mirrors 1;"
                + "peak c sun from 0 to 120 mirrors 1;pass p between a and b far 1;pass q between a and c far 1;");
        Check.due("isOpen(0, 9999)", true, x.isOpen(0, 9999));
        Check.due("isOpen(0, 9998)", false, x.isOpen(0, 9998));
        Check.due("isOpen(1, 0)", true, x.isOpen(1, 0));
        Check.due("isOpen(0, 0)", false, x.isOpen(0, 0));
        Check.due("isOpen(1, 40)", false, x.isOpen(1, 40));
    }

    private static void wayOfNone() {
        // c has no sun in 0; with it in 1 the way is there.
        Heliographs x = Check.taught(peak("a", 0) + peak("b", 0) + "peak c sun from 1 to 2 mirrors 0;" + peak("d", 0)
                + "pass ab between a and b far 1;pass bc between b and c far 20;");
        for (int peak = 0; peak < 4; peak++) {
            Check.due("way to itself", 0, x.way(peak, peak));
        }
        Check.due("way(0, 1)", 1, x.way(0, 1));
        Check.due("way(0, 2) in 0", -1, x.way(0, 2));
        Check.due("way(2, 0) in 0", -1, x.way(2, 0));
        Check.due("way(0, 3)", -1, x.way(0, 3));
        x.go(1);
        Check.due("way(0, 2) in 1", 21, x.way(0, 2));
        x.go(1);
        Check.due("way(0, 2) in 2", -1, x.way(0, 2));
        // A message that is flashed over a pass is not in the way, nor are mirrors.
        Heliographs y = Check.taught(AB + "message m words 9 at a to b due 0;");
        y.go(2);
        Check.due("way(0, 1) with a message", 1, y.way(0, 1));
        Check.due("first(0, 1) with a message", 0, y.first(0, 1));
        // One peak alone.
        Check.due("way(0, 0) of one peak", 0, Check.taught(peak("a", 0)).way(0, 0));
    }

    private static void firstOfNone() {
        Heliographs x = Check.taught(peak("a", 0) + peak("b", 0) + "peak c sun from 1 to 2 mirrors 0;" + peak("d", 0)
                + "pass ab between a and b far 1;pass bc between b and c far 20;");
        for (int peak = 0; peak < 4; peak++) {
            Check.due("first to itself", -1, x.first(peak, peak));
        }
        Check.due("first(0, 1)", 0, x.first(0, 1));
        Check.due("first(1, 0)", 0, x.first(1, 0));
        Check.due("first(0, 2) in 0", -1, x.first(0, 2));
        Check.due("first(2, 0) in 0", -1, x.first(2, 0));
        Check.due("first(0, 3)", -1, x.first(0, 3));
        x.go(1);
        Check.due("first(0, 2) in 1", 0, x.first(0, 2));
        Check.due("first(2, 0) in 1", 1, x.first(2, 0));
        x.go(1);
        Check.due("first(0, 2) in 2", -1, x.first(0, 2));
        Check.due("first(0, 0) of one peak", -1, Check.taught(peak("a", 0)).first(0, 0));
    }

    private static void waysRefuse() {
        for (int no : new int[] {-1, 3, 8, LEAST, MOST}) {
            for (int other : new int[] {0, 2, 3, -1}) {
                refused("way(" + no + ", " + other + ")", Check.INDEX, x -> x.way(no, other));
                refused("way(" + other + ", " + no + ")", Check.INDEX, x -> x.way(other, no));
                refused("first(" + no + ", " + other + ")", Check.INDEX, x -> x.first(no, other));
                refused("first(" + other + ", " + no + ")", Check.INDEX, x -> x.first(other, no));
            }
            refused("way(" + no + ", " + no + ")", Check.INDEX, x -> x.way(no, no));
            refused("first(" + no + ", " + no + ")", Check.INDEX, x -> x.first(no, no));
        }
        changesNothing("way(2, 0)", x -> x.way(2, 0));
        changesNothing("first(2, 0)", x -> x.first(2, 0));
    }

    // ---- by hand, and minutes

    private static void mirrorOfNoPeak() {
        for (int peak : new int[] {-1, 3, 8, LEAST, MOST}) {
            refused("mirror(" + peak + ", true)", Check.INDEX, x -> x.mirror(peak, true));
            refused("mirror(" + peak + ", false)", Check.INDEX, x -> x.mirror(peak, false));
        }
        Check.due("mirror(0, true)", 3, Twins.busy().mirror(0, true));
        Check.due("mirror(2, false)", 3, Twins.busy().mirror(2, false));
    }

    private static void mirrorOfFour() {
        refused("mirror(2, true) of 4", Check.STATE, x -> x.mirror(2, true));
        for (int mirrors = 0; mirrors <= 4; mirrors++) {
            String list = peak("a", mirrors) + peak("b", 2);
            if (mirrors < 4) {
                Heliographs x = Check.taught(list);
                Check.due("one more than " + mirrors, mirrors + 1, x.mirror(0, true));
                Check.due("mirrors", mirrors + 1, x.peak(0, 2));
                Check.due("free ones", mirrors + 1, x.peak(0, 3));
                Check.due("mirrors of b", 2, x.peak(1, 2));
            } else {
                Check.refused("one more than 4", Check.STATE, () -> Check.taught(list), x -> x.mirror(0, true));
            }
        }
        // Four by hand are as many; with all of them in use it is refused as well.
        Heliographs x = Check.taught(AB + "message m words 9 at a to b due 0;");
        x.go(1);
        for (int mirrors = 2; mirrors <= 4; mirrors++) {
            Check.due("by hand", mirrors, x.mirror(0, true));
        }
        Check.refuses(x, "one more than 4 by hand", Check.STATE, () -> x.mirror(0, true));
        Check.due("one away from 4", 3, x.mirror(0, false));
        Check.due("and one more", 4, x.mirror(0, true));
    }

    private static void mirrorOfNone() {
        for (int mirrors = 0; mirrors <= 4; mirrors++) {
            String list = peak("a", mirrors) + peak("b", 2);
            if (mirrors > 0) {
                Heliographs x = Check.taught(list);
                Check.due("one less than " + mirrors, mirrors - 1, x.mirror(0, false));
                Check.due("mirrors", mirrors - 1, x.peak(0, 2));
                Check.due("mirrors of b", 2, x.peak(1, 2));
            } else {
                Check.refused("one less than none", Check.STATE, () -> Check.taught(list), x -> x.mirror(0, false));
            }
        }
        Heliographs x = Check.taught(peak("a", 1));
        Check.due("the last one", 0, x.mirror(0, false));
        Check.refuses(x, "one less than none by hand", Check.STATE, () -> x.mirror(0, false));
        Check.due("the first one", 1, x.mirror(0, true));
    }

    private static void mirrorOfNoneFree() {
        refused("mirror(1, false), none free", Check.STATE, x -> x.mirror(1, false));
        StringBuilder list = new StringBuilder();
        for (int i = 0; i < 4; i++) {
            list.append(peak("b" + i, 0) + "pass p" + i + " between a and b" + i + " far 1;message m" + i
                    + " words 9 at a to b" + i + " due 0;");
        }
        for (int mirrors = 1; mirrors <= 4; mirrors++) {
            Heliographs x = Check.taught(peak("a", mirrors) + list);
            x.go(1);
            Check.due("flashed", mirrors, x.count(9));
            Check.refuses(x, "one less of " + mirrors + " in use", Check.STATE, () -> x.mirror(0, false));
            x.stop(mirrors - 1);
            Check.due("one less, with one free", mirrors - 1, x.mirror(0, false));
            Check.refuses(x, "one less of " + (mirrors - 1) + " in use", Check.STATE, () -> x.mirror(0, false));
        }
        // The peak to which it is flashed has its mirrors free.
        Heliographs y = Check.taught(AB + "message m words 9 at a to b due 0;");
        y.go(1);
        Check.due("one less of b", 0, y.mirror(1, false));
    }

    private static void stopRefuses() {
        for (int message : new int[] {-1, 3, 8, LEAST, MOST}) {
            refused("stop(" + message + ")", Check.INDEX, x -> x.stop(message));
        }
        refused("stop() of one that is there", Check.STATE, x -> x.stop(0));
        refused("stop() of one that waits", Check.STATE, x -> x.stop(2));
        Check.due("stop() of one that is flashed", 6, Twins.busy().stop(1));
        Heliographs x = Twins.busy();
        x.stop(1);
        Check.refuses(x, "stop() once more", Check.STATE, () -> x.stop(1));
    }

    private static void stopBreaksOff() {
        // Behind each of the minutes in which it is flashed: 4 words, then 3, 2, and the last one.
        for (int minutes = 1; minutes <= 4; minutes++) {
            Heliographs x = Check.taught(AB + "message m words 4 at a to b due 0;");
            x.go(minutes);
            Check.due("stop() behind " + minutes, 5 - minutes, x.stop(0));
            int[] due = {4, 0, 1, 0, -1, 4, 1, -1, 0};
            for (int what = 0; what <= 8; what++) {
                Check.due("message(0, " + what + ") behind stop()", due[what], x.message(0, what));
            }
            Check.due("over p", -1, x.pass(0, 4));
            Check.due("words over p", minutes - 1, x.pass(0, 5));
            Check.due("free mirrors", 1, x.peak(0, 3));
            Check.due("queue", 1, x.peak(0, 4));
            Check.due("until() behind stop()", 5, x.until(0));
        }
    }

    private static void forwardRefuses() {
        for (int no : new int[] {-1, 3, 8, LEAST, MOST}) {
            refused("forward(" + no + ", 0)", Check.INDEX, x -> x.forward(no, 0));
            refused("forward(0, " + no + ")", Check.INDEX, x -> x.forward(0, no));
            refused("forward(1, " + no + "), flashed", Check.INDEX, x -> x.forward(1, no));
            refused("forward(" + no + ", " + no + ")", Check.INDEX, x -> x.forward(no, no));
        }
        refused("forward() to its peak", Check.ARGUMENT, x -> x.forward(0, 1));
        refused("forward() of one that is flashed, to its peak", Check.ARGUMENT, x -> x.forward(1, 1));
        refused("forward() of one that waits, to its peak", Check.ARGUMENT, x -> x.forward(2, 2));
        refused("forward() of one that is flashed, to where it goes", Check.STATE, x -> x.forward(1, 2));
        refused("forward() of one that is flashed, elsewhere", Check.STATE, x -> x.forward(1, 0));
        refused("forward() of one that waits, to where it goes", Check.STATE, x -> x.forward(2, 0));
        refused("forward() of one that waits, elsewhere", Check.STATE, x -> x.forward(2, 1));
        Check.due("forward() to the first peak", 1, Twins.busy().forward(0, 0));
        Check.due("forward() to the last peak", 1, Twins.busy().forward(0, 2));
        Heliographs x = Twins.busy();
        x.forward(0, 2);
        Check.refuses(x, "forward() once more", Check.STATE, () -> x.forward(0, 0));
    }

    private static void forwardGoesOn() {
        Heliographs x = Check.taught(AB + peak("c", 1) + "pass q between b and c far 1;message m words 2 at a to b due 0;");
        x.go(2);
        x.stop(0);
        x.go(3);
        Check.due("forward()", 1, x.forward(0, 2));
        int[] due = {2, 1, 2, 0, -1, 2, 1, -1, 1};
        for (int what = 0; what <= 8; what++) {
            Check.due("message(0, " + what + ") behind forward()", due[what], x.message(0, what));
        }
        Check.due("there", 0, x.count(10));
        Check.due("go(3)", 1, x.go(3));
        int[] then = {2, 2, 2, 2, -1, 0, 1, 7, 2};
        for (int what = 0; what <= 8; what++) {
            Check.due("message(0, " + what + ") when it is there again", then[what], x.message(0, what));
        }
        // Forward, in the minute behind its due, and ahead of it: the due stays.
        Heliographs y = Check.taught(AB + "message m words 1 at a to b due 500;hold m when queue b=1 and minute<60;");
        Check.go(y, 502);
        Check.due("forward() of one with a late due", 1, y.forward(0, 0));
        Check.due("held in 22 of the day up to 60", 60 - 22 + 2, y.until(0));
    }

    private static void goRefuses() {
        for (int minutes : new int[] {0, -1, 241, 242, LEAST, MOST}) {
            refused("go(" + minutes + ")", Check.ARGUMENT, x -> x.go(minutes));
        }
        for (int minutes : new int[] {1, 2, 239, 240}) {
            Heliographs x = Twins.busy();
            x.go(minutes);
            Check.due("minute behind go(" + minutes + ")", 6 + minutes, x.count(0));
        }
        // Many minutes at once are as many minutes, one by one.
        Heliographs one = Twins.busy();
        Heliographs many = Twins.busy();
        int come = 0;
        for (int i = 0; i < 240; i++) {
            come += one.go(1);
        }
        Check.due("go(240)", come, many.go(240));
        Check.due("digest()", one.digest(), many.digest());
    }

    private static void goReturns() {
        StringBuilder list = new StringBuilder(peak("a", 4));
        for (int i = 0; i < 4; i++) {
            list.append(peak("b" + i, 0) + "pass p" + i + " between a and b" + i + " far 1;message m" + i
                    + " words 2 at a to b" + i + " due 0;message n" + i + " words " + (i + 1) + " at a to b" + i + " due 0;");
        }
        Heliographs x = Check.taught(list.toString());
        Check.due("none in 0 and 1", 0, x.go(2));
        Check.due("four in 2", 4, x.go(1));
        // Those that are there already do not come again.
        Check.due("n0 in 3", 1, x.go(1));
        Check.due("n1 in 4", 1, x.go(1));
        Check.due("n2 and n3 by 6", 2, x.go(2));
        Check.due("none", 0, x.go(240));
        Check.due("all of them at once", 8, Check.taught(list.toString()).go(7));
        // One that comes to a peak on its way does not count.
        Heliographs y = Check.taught(AB + peak("c", 1) + "pass q between b and c far 1;message m words 1 at a to c due 0;");
        Check.due("on its way", 0, y.go(2));
        Check.due("over one pass", 1, y.message(0, 8));
        Check.due("where it goes", 1, y.go(1));
        // Sent on and come again, it counts again.
        y.forward(0, 1);
        Check.due("come again", 1, y.go(2));
    }

    // ---- what would be

    private static void untilAtMost() {
        Heliographs x = Twins.busy();
        Check.due("of one that is there", 0, x.until(0));
        Check.due("of one that is flashed", true, x.until(1) > 0);
        for (int message = 0; message < 3; message++) {
            int asked = message;
            changesNothing("until(" + message + ")", y -> y.until(asked));
        }
        // Sent off in due, flashed in the next minute, and there behind it.
        for (int due = 356; due <= 361; due++) {
            Heliographs y = Check.taught(AB + "message m words 1 at a to b due " + due + ";");
            Check.due("until() with due " + due, due + 2 <= 360 ? due + 2 : -1, y.until(0));
        }
        Heliographs z = Check.taught(AB + "message m words 1 at a to b due 999;");
        Check.go(z, 640);
        Check.due("until() in 640", -1, z.until(0));
        z.go(1);
        Check.due("until() in 641", 360, z.until(0));
        z.go(1);
        Check.due("until() in 642", 359, z.until(0));
        Check.go(z, 358);
        Check.due("until() in 1000", 1, z.until(0));
        z.go(1);
        Check.due("until() in 1001", 0, z.until(0));
        Check.due("until() of one that never comes", -1,
                Check.taught(peak("a", 1) + peak("b", 1) + "message m words 1 at a to b due 0;").until(0));
    }

    private static void untilRefuses() {
        for (int message : new int[] {-1, 3, 8, LEAST, MOST}) {
            refused("until(" + message + ")", Check.INDEX, x -> x.until(message));
        }
    }

    private static void opensAtMost() {
        String list = "peak b sun from 0 to 120 mirrors 1;pass p between a and b far 1;";
        // The minute 0 of the day; with a cloud over the other days up to 240, and over 240 as well.
        Heliographs x = Check.taught("peak a sun from 0 to 1 mirrors 1;" + list);
        Check.due("in 0", 0, x.opens(0));
        x.go(1);
        Check.due("in 1", 119, x.opens(0));
        x.go(118);
        Check.due("in 119", 1, x.opens(0));
        x.go(1);
        Check.due("in 120", 0, x.opens(0));
        // It is open in 240 and 840, .., as 25 divides them and 10: 24 of 25 minutes are cloudy.
        Heliographs y = Check.taught("peak a sun from 0 to 1 mirrors 1;" + list + "cloud over p every 25 for 24 from 9;");
        Check.due("isOpen in 240", true, y.isOpen(0, 240));
        Check.due("at most 240", 240, y.opens(0));
        y.go(1);
        Check.due("one less", 239, y.opens(0));
        Heliographs z = Check.taught("peak a sun from 1 to 2 mirrors 1;" + list + "cloud over p every 25 for 24 from 8;");
        Check.due("isOpen in 241", true, z.isOpen(0, 241));
        Check.due("one more than 240", -1, z.opens(0));
        z.go(1);
        Check.due("at most 240 of 1", 240, z.opens(0));
        Check.due("never", -1, Check.taught("peak a sun from 5 to 5 mirrors 1;" + list).opens(0));
        for (int pass = 0; pass < 3; pass++) {
            int asked = pass;
            changesNothing("opens(" + pass + ")", w -> w.opens(asked));
        }
    }

    private static void opensRefuses() {
        for (int pass : new int[] {-1, 3, 12, LEAST, MOST}) {
            refused("opens(" + pass + ")", Check.INDEX, x -> x.opens(pass));
        }
    }

    private static void foreseeRefuses() {
        for (int minutes : new int[] {0, -1, 241, 242, LEAST, MOST}) {
            refused("foresee(" + minutes + ", 8)", Check.ARGUMENT, x -> x.foresee(minutes, 8));
            refused("foresee(" + minutes + ", 7)", Check.ARGUMENT, x -> x.foresee(minutes, 7));
            refused("foresee(" + minutes + ", 13)", Check.ARGUMENT, x -> x.foresee(minutes, 13));
        }
        for (int what : new int[] {-1, 0, 7, 13, 14, LEAST, MOST}) {
            refused("foresee(1, " + what + ")", Check.INDEX, x -> x.foresee(1, what));
            refused("foresee(240, " + what + ")", Check.INDEX, x -> x.foresee(240, what));
        }
    }

    private static void foreseeAtMost() {
        for (int minutes : new int[] {1, 2, 239, 240}) {
            for (int what = 8; what <= 12; what++) {
                int asked = what;
                Heliographs then = Twins.busy();
                then.go(minutes);
                Check.due("foresee(" + minutes + ", " + what + ")", then.count(what), Twins.busy().foresee(minutes, what));
                changesNothing("foresee(" + minutes + ", " + what + ")", x -> x.foresee(minutes, asked));
            }
        }
        // It comes in 240: behind 241 minutes from 0, and behind 240 from 1.
        Heliographs x = Check.taught(AB + "message m words 1 at a to b due 239;");
        Check.due("there behind 240", 0, x.foresee(240, 10));
        Check.due("flashed behind 240", 1, x.foresee(240, 9));
        x.go(1);
        Check.due("there behind 240 of 1", 1, x.foresee(240, 10));
        Check.due("there behind 239 of 1", 0, x.foresee(239, 10));
    }

    private static void missedRefuses() {
        for (int minutes : new int[] {0, -1, 241, 242, LEAST, MOST}) {
            refused("missed(" + minutes + ")", Check.ARGUMENT, x -> x.missed(minutes));
            Check.refused("missed(" + minutes + ") of a new one", Check.ARGUMENT, Heliographs::new, x -> x.missed(minutes));
        }
        each(new int[] {1, 2, 239, 240}, minutes -> changesNothing("missed(" + minutes + ")", x -> x.missed(minutes)));
        // It comes in 240: behind 240 minutes from 0 it is never there, behind 240 from 1 it is, but not without q.
        Heliographs x = Check.taught(AB + peak("c", 1) + "pass q between b and c far 1;message m words 1 at b to c due 239;");
        Check.due("missed(240) of 0", 0, x.missed(240));
        x.go(1);
        Check.due("missed(240) of 1", 1, x.missed(240));
        Check.due("missed(239) of 1", 0, x.missed(239));
        x.go(239);
        Check.due("missed(1) of 240", 1, x.missed(1));
    }

    private static void missedIsNeverOpen() {
        String list = peak("a", 1) + peak("b", 1) + peak("c", 1) + "pass p between a and b far 1;";
        // What is flashed over it breaks off, ahead of its last word.
        Heliographs x = Check.taught(list + "pass q between b and c far 1;message m words 3 at b to c due 0;");
        x.go(3);
        Check.due("m with its last word", 1, x.message(0, 5));
        Check.due("missed(1)", 1, x.missed(1));
        // A test of hold sees it shut as well: without q, over which nothing goes, m is held.
        Heliographs y = Check.taught(list + "pass q between b and c far 1;message m words 1 at a to b due 0;"
                + "hold m when not open q;message n words 1 at a to b due 0;hold n when not open q;");
        Check.due("without p and without q", 0, y.missed(9));
        y = Check.taught(list + "pass p2 between a and b far 1;pass q between b and c far 1;message m words 1 at a to b due 0;"
                + "hold m when not open q;");
        Check.due("there is another pass beside p, but not beside q", 2, y.missed(9));
        // The other way round: without q m is not held, and with all other passes it is.
        Heliographs z = Check.taught(list + "pass q between b and c far 1;message m words 1 at a to b due 0;hold m when open q;");
        Check.due("without p it is not there, as with it", 0, z.missed(9));
        z = Check.taught("peak a sun from 0 to 120 mirrors 1;" + peak("b", 1) + peak("c", 1)
                + "pass q between b and c far 1;pass p between a and b far 1;message m words 1 at a to b due 0;hold m when open q;");
        Check.due("without q it is there", 1, z.missed(9));
        // In its place a way around is taken, which is longer.
        Heliographs w = Check.taught(list + "pass q between b and c far 1;pass r between a and c far 9;"
                + "message m words 1 at a to b due 0;");
        Check.due("missed(1)", 0, w.missed(1));
        Check.due("missed(2)", 0, w.missed(2));
        Check.due("missed(3), around c", 0, w.missed(3));
        Check.due("there by then", 1, w.foresee(3, 10));
    }

    private static void missedOfSeveral() {
        Check.due("without passes", -1, Check.taught(peak("a", 1) + peak("b", 1) + "message m words 1 at a to b due 0;").missed(9));
        Check.due("of one pass, without messages", 0, Check.taught(AB).missed(9));
        // Of twelve passes the last one alone is missed; and of the last two the first.
        StringBuilder list = new StringBuilder(peak("a", 2) + peak("b", 0) + peak("c", 0) + peak("d", 0));
        for (int i = 0; i < 10; i++) {
            list.append("pass n" + i + " between a and d far 1;");
        }
        list.append("pass p10 between a and b far 1;pass p11 between a and c far 1;");
        String toB = "message m words 1 at a to b due 0;";
        String toC = "message n words 1 at a to c due 0;";
        Check.due("of twelve, none is missed", 0, Check.taught(list.toString()).missed(9));
        Check.due("of twelve, the last", 11, Check.taught(list + toC).missed(9));
        Check.due("of twelve, the last but one", 10, Check.taught(list + toB).missed(9));
        Check.due("of twelve, the first of two", 10, Check.taught(list + toC + toB).missed(9));
        Check.due("of twelve, with fewest messages", 11, Check.taught(list + toC + toB + toC.replace("n w", "o w")).missed(9));
        // With all eight messages there, and none, nothing is missed more than the first.
        StringBuilder eight = new StringBuilder(AB + "pass q between a and b far 1;");
        for (int i = 0; i < 8; i++) {
            eight.append("message m" + i + " words 1 at a to b due 0;");
        }
        Heliographs x = Check.taught(eight.toString());
        Check.due("all come", 8, x.foresee(40, 10));
        Check.due("missed(40)", 0, x.missed(40));
        x.go(40);
        Check.due("missed(40), all are there", 0, x.missed(40));
    }

    private static void adviseRefuses() {
        for (int minutes : new int[] {0, -1, 241, 242, LEAST, MOST}) {
            refused("advise(" + minutes + ")", Check.ARGUMENT, x -> x.advise(minutes));
            Check.refused("advise(" + minutes + ") of a new one", Check.ARGUMENT, Heliographs::new, x -> x.advise(minutes));
        }
        each(new int[] {1, 2, 239, 240}, minutes -> changesNothing("advise(" + minutes + ")", x -> x.advise(minutes)));
        // Sent off in 239 it comes in 240: behind 240 minutes of 1, not of 0.
        Heliographs x = Check.taught(peak("b", 0) + peak("a", 0) + "pass p between a and b far 1;message m words 1 at a to b due 239;");
        Check.due("advise(240) of 0", -1, x.advise(240));
        x.go(1);
        Check.due("advise(240) of 1", 1, x.advise(240));
        Check.due("advise(239) of 1", -1, x.advise(239));
        x.go(238);
        Check.due("advise(1) of 239", -1, x.advise(1));
        Check.due("advise(2) of 239", 1, x.advise(2));
        Check.due("mirrors of a, which are as they were", 0, x.peak(1, 2));
    }

    private static void adviseHoweverMany() {
        for (int mirrors = 0; mirrors <= 4; mirrors++) {
            StringBuilder list = new StringBuilder(peak("z", 0) + peak("a", mirrors));
            for (int i = 0; i <= mirrors; i++) {
                list.append(peak("b" + i, 0) + "pass p" + i + " between a and b" + i + " far 1;message m" + i
                        + " words 1 at a to b" + i + " due 0;");
            }
            Heliographs x = Check.taught(list.toString());
            Check.due("advise(1) with " + mirrors, -1, x.advise(1));
            Check.due("advise(2) with " + mirrors, 1, x.advise(2));
            Check.due("mirrors", mirrors, x.peak(1, 2));
            // Behind it all of them come by themselves, but for those without any mirror.
            Check.due("advise(3) with " + mirrors, mirrors == 0 ? 1 : -1, x.advise(3));
        }
    }

    private static void adviseOfSeveral() {
        Check.due("without peaks", -1, new Heliographs().advise(9));
        Check.due("of one peak, without messages", -1, Check.taught(peak("a", 0)).advise(9));
        // Of eight peaks the last one; of two alike the first one; of two the one with more messages.
        StringBuilder list = new StringBuilder();
        for (int i = 0; i < 8; i++) {
            list.append(peak("k" + i, 0));
        }
        list.append("pass p between k7 and k0 far 1;pass q between k6 and k1 far 1;");
        String of7 = "message m words 1 at k7 to k0 due 0;";
        String of6 = "message n words 1 at k6 to k1 due 0;";
        Check.due("of eight, none", -1, Check.taught(list.toString()).advise(9));
        Check.due("of eight, the last", 7, Check.taught(list + of7).advise(9));
        Check.due("of eight, the first of two", 6, Check.taught(list + of7 + of6).advise(9));
        Check.due("of eight, with the most messages", 7, Check.taught(list + of7 + of6 + of7.replace("m w", "o w")).advise(9));
        Check.due("of eight, with the most messages by 2", 6, Check.taught(list + of7 + of6 + of7.replace("m w", "o w")).advise(2));
        // As many as without are not more, and fewer are not: with a mirror of a, m goes ahead of n, and takes long.
        Check.due("all come without", -1, Check.taught(AB + "message m words 1 at a to b due 0;").advise(9));
        String ahead = peak("a", 0) + peak("b", 1) + "pass p between a and b far 1;message m words 9 at a to b due 0;"
                + "message n words 1 at b to a due 0;";
        Check.due("fewer with one of a", -1, Check.taught(ahead).advise(2));
        Check.due("as many with one of a", -1, Check.taught(ahead).advise(10));
        Check.due("more with one of a", 0, Check.taught(ahead).advise(12));
    }

    private static void meanOfNone() {
        Check.due("of a new one", 0.0, new Heliographs().mean());
        Check.due("without messages", 0.0, Check.taught(AB).mean());
        Heliographs x = Check.taught(AB + "message m words 40 at a to b due 0;");
        Check.due("of one", 40.0, x.mean());
        x.go(2);
        Check.due("of one that is flashed", 39.0, x.mean());
        x.go(240);
        Check.due("of one that is there", 0.0, x.mean());
        Heliographs y = Check.taught(AB + "message m words 1 at a to b due 0;message n words 2 at a to b due 900;"
                + "message o words 1 at a to b due 900;");
        Check.due("of three", 4 / 3.0, y.mean());
        y.go(9);
        Check.due("of three, one of them there", 1.0, y.mean());
        StringBuilder eight = new StringBuilder(AB);
        for (int i = 0; i < 8; i++) {
            eight.append("message m" + i + " words " + (i == 0 ? 1 : 40) + " at a to b due 0;");
        }
        Heliographs z = Check.taught(eight.toString());
        Check.due("of eight", 281 / 8.0, z.mean());
        z.go(2);
        Check.due("of eight, one of them there", 280 / 8.0, z.mean());
        changesNothing("mean()", Heliographs::mean);
    }

    private static void digestWrapsAround() {
        // 863 times 31 to the 14th is above 2 to the 63rd: it wraps around, and is as BigInteger has it, cut to 64 bits.
        java.math.BigInteger d = java.math.BigInteger.valueOf(863);
        for (int what = 0; what <= 13; what++) {
            d = d.multiply(java.math.BigInteger.valueOf(31));
        }
        Check.due("it has more than 64 bits", true, d.bitLength() > 64);
        Check.due("of a new one", d.longValue(), new Heliographs().digest());
        Heliographs x = Twins.busy();
        d = java.math.BigInteger.valueOf(863);
        for (int number : new int[] {6, 3, 3, 1, 3, 1, 3, 2, 1, 1, 1, 1, 1, 33,
            0, 120, 2, 2, 0, 2, 2, 0, 60, 1, 0, 0, 2, 1, 0, 120, 4, 4, 1, 2, 1,
            0, 1, 7, 0, -1, 5, 1, 1, 2, 2, 1, 1, 4, 0, 0, 2, 20, 0, -1, 0, 1,
            4, 1, 1, 2, -1, 0, 0, 5, 1, 9, 1, 2, 1, 1, 6, 1, -1, 0, 3, 2, 0, 0, -1, 3, 0, -1, 0}) {
            d = d.multiply(java.math.BigInteger.valueOf(31)).add(java.math.BigInteger.valueOf(number));
        }
        Check.due("of one that is busy", d.longValue(), x.digest());
        changesNothing("digest()", Heliographs::digest);
    }
}
