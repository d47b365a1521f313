/** Promises 6 to 9: count, peak, pass, message. */
public final class TellTest {
    private static final String LIST = "peak a sun from 0 to 120 mirrors 2;peak b sun from 2 to 60 mirrors 1;"
            + "peak c sun from 0 to 3 mirrors 0;peak d sun from 5 to 5 mirrors 4;"
            + "pass ab between a and b far 3;pass bc between b and c far 9;pass ca between c and a far 20;"
            + "cloud over bc every 10 for 2 from 8;cloud over ab every 4 for 1 from 1;cloud over bc every 50 for 1 from 0;"
            + "message m words 4 at a to c due 2;message n words 2 at b to a due 1;message o words 7 at a to b due 900;"
            + "hold o when minute < 0;hold n when 1 > 2;";

    public static void main(String[] args) {
        atFirst();
        behindMinutes();
        wayOfAMessage();
        wrongInputs();
        Check.end();
    }

    private static void counts(Heliographs x, String when, int... due) {
        for (int what = 0; what < due.length; what++) {
            Check.due("count(" + what + ") " + when, due[what], x.count(what));
        }
    }

    private static void peak(Heliographs x, int peak, int... due) {
        for (int what = 0; what < due.length; what++) {
            Check.due("peak(" + peak + ", " + what + ") in " + x.count(0), due[what], x.peak(peak, what));
        }
    }

    private static void pass(Heliographs x, int pass, int... due) {
        for (int what = 0; what < due.length; what++) {
            Check.due("pass(" + pass + ", " + what + ") in " + x.count(0), due[what], x.pass(pass, what));
        }
    }

    private static void message(Heliographs x, int message, int... due) {
        for (int what = 0; what < due.length; what++) {
            Check.due("message(" + message + ", " + what + ") in " + x.count(0), due[what], x.message(message, what));
        }
    }

    private static void atFirst() {
        Heliographs x = Check.taught(LIST);
        counts(x, "at first", 0, 4, 3, 3, 3, 2, 2, 1, 3, 0, 0, 0, 0, 0);
        peak(x, 0, 0, 120, 2, 2, 2, 2, 1);
        peak(x, 1, 2, 60, 1, 1, 1, 2, 0);
        peak(x, 2, 0, 3, 0, 0, 0, 2, 1);
        peak(x, 3, 5, 5, 4, 4, 0, 0, 0);
        pass(x, 0, 0, 1, 3, 1, -1, 0);
        pass(x, 1, 1, 2, 9, 2, -1, 0);
        pass(x, 2, 2, 0, 20, 0, -1, 0);
        message(x, 0, 4, 0, 2, 0, -1, 4, 0, -1, 0);
        message(x, 1, 2, 1, 0, 0, -1, 2, 0, -1, 0);
        message(x, 2, 7, 0, 1, 0, -1, 7, 0, -1, 0);
        x.feed(0, 0, 0, 0, 0);
        Check.due("bytes of the tape", 20, x.count(13));
    }

    private static void behindMinutes() {
        Heliographs x = Check.taught(LIST);
        // In the minute 2 ab is open, and bc is cloudy: m goes over ca, which is far, n over ab.
        x.go(3);
        counts(x, "behind 3", 3, 4, 3, 3, 3, 2, 2, 0, 1, 2, 0, 0, 0, 0);
        peak(x, 0, 0, 120, 2, 1, 1, 2, 0);
        peak(x, 1, 2, 60, 1, 0, 0, 2, 0);
        pass(x, 0, 0, 1, 3, 1, 1, 0);
        pass(x, 2, 2, 0, 20, 0, 0, 0);
        message(x, 0, 4, 0, 2, 1, 2, 4, 0, -1, 0);
        message(x, 1, 2, 1, 0, 1, 0, 2, 0, -1, 0);
        // In the minute 3 c has no sun any more, and ab is cloudy: both break off.
        x.go(1);
        counts(x, "behind 4", 4, 4, 3, 3, 3, 2, 2, 1, 3, 0, 0, 2, 0, 0);
        peak(x, 0, 0, 120, 2, 2, 2, 2, 1);
        message(x, 0, 4, 0, 2, 0, -1, 4, 1, -1, 0);
        message(x, 1, 2, 1, 0, 0, -1, 2, 1, -1, 0);
        // n begins again in 4, is flashed in 5 and 6, and is there.
        x.go(2);
        message(x, 1, 2, 1, 0, 1, 0, 1, 1, -1, 0);
        pass(x, 0, 0, 1, 3, 1, 1, 1);
        x.go(1);
        message(x, 1, 2, 0, 0, 2, -1, 0, 1, 6, 1);
        pass(x, 0, 0, 1, 3, 1, -1, 2);
        counts(x, "behind 7", 7, 4, 3, 3, 3, 2, 2, 0, 2, 0, 1, 2, 0, 0);
    }

    private static void wayOfAMessage() {
        Heliographs x = Check.taught("peak a sun from 0 to 120 mirrors 1;peak b sun from 0 to 120 mirrors 1;"
                + "peak c sun from 0 to 120 mirrors 1;pass p between a and b far 1;pass q between c and b far 8;"
                + "message m words 2 at a to c due 0;");
        x.go(3);
        // It came to b in the minute 2, and is sent on in the same minute.
        message(x, 0, 2, 1, 2, 1, 1, 2, 0, -1, 1);
        // In 3 the words and the minute are 5: the word is lost.
        x.go(1);
        message(x, 0, 2, 1, 2, 1, 1, 2, 0, -1, 1);
        Check.due("lost", 1, x.count(12));
        pass(x, 1, 2, 1, 8, 0, 0, 1);
        // In 4 they are 6, in 5 the one that is left makes 6.
        x.go(2);
        message(x, 0, 2, 2, 2, 2, -1, 0, 0, 5, 2);
        pass(x, 1, 2, 1, 8, 0, -1, 3);
        Check.due("lost", 1, x.count(12));
    }

    private static void wrongInputs() {
        Heliographs x = Check.taught(LIST);
        int[][] no = {{-1, 0}, {Integer.MIN_VALUE, 0}, {Integer.MAX_VALUE, 0}, {0, -1}, {0, Integer.MAX_VALUE}};
        for (int[] one : no) {
            Check.refuses(x, "peak(" + one[0] + ", " + one[1] + ")", Check.INDEX, () -> x.peak(one[0], one[1]));
            Check.refuses(x, "pass(" + one[0] + ", " + one[1] + ")", Check.INDEX, () -> x.pass(one[0], one[1]));
            Check.refuses(x, "message(" + one[0] + ", " + one[1] + ")", Check.INDEX, () -> x.message(one[0], one[1]));
        }
        Check.refuses(x, "peak(4, 0)", Check.INDEX, () -> x.peak(4, 0));
        Check.refuses(x, "peak(3, 7)", Check.INDEX, () -> x.peak(3, 7));
        Check.refuses(x, "pass(3, 0)", Check.INDEX, () -> x.pass(3, 0));
        Check.refuses(x, "pass(2, 6)", Check.INDEX, () -> x.pass(2, 6));
        Check.refuses(x, "message(3, 0)", Check.INDEX, () -> x.message(3, 0));
        Check.refuses(x, "message(2, 9)", Check.INDEX, () -> x.message(2, 9));
        Check.refuses(x, "count(-1)", Check.INDEX, () -> x.count(-1));
        Check.refuses(x, "count(14)", Check.INDEX, () -> x.count(14));
        Check.refuses(x, "count(the least)", Check.INDEX, () -> x.count(Integer.MIN_VALUE));
    }
}
