/** Promises 23 and 24: mean, digest. */
public final class SumTest {
    public static void main(String[] args) {
        mean();
        digest();
        Check.end();
    }

    private static void mean() {
        Heliographs x = new Heliographs();
        Check.due("mean() without messages", 0.0, x.mean());
        Check.teach(x, "peak a sun from 0 to 120 mirrors 1;peak b sun from 0 to 120 mirrors 1;pass p between a and b far 1;");
        Check.due("mean() without messages, with peaks", 0.0, x.mean());
        x = Check.taught("peak a sun from 0 to 120 mirrors 1;peak b sun from 0 to 120 mirrors 1;"
                + "pass p between a and b far 1;message m words 2 at a to b due 0;message n words 40 at b to a due 0;"
                + "message o words 1 at b to a due 900;");
        Check.due("mean()", 43 / 3.0, x.mean());
        x.go(2);
        Check.due("mean() with one flashed", 42 / 3.0, x.mean());
        x.go(1);
        Check.due("mean() with one that is there", 41 / 3.0, x.mean());
        Check.due("mean() changes nothing", 41 / 3.0, x.mean());
    }

    private static long digestOf(Heliographs x) {
        long d = 863;
        for (int what = 0; what <= 13; what++) {
            d = d * 31 + x.count(what);
        }
        for (int peak = 0; peak < x.count(1); peak++) {
            for (int what = 0; what <= 6; what++) {
                d = d * 31 + x.peak(peak, what);
            }
        }
        for (int pass = 0; pass < x.count(2); pass++) {
            for (int what = 0; what <= 5; what++) {
                d = d * 31 + x.pass(pass, what);
            }
            d = d * 31 + (x.isOpen(pass, x.count(0)) ? 1 : 0);
        }
        for (int message = 0; message < x.count(4); message++) {
            for (int what = 0; what <= 8; what++) {
                d = d * 31 + x.message(message, what);
            }
        }
        return d;
    }

    private static void digest() {
        String list = "peak a sun from 0 to 120 mirrors 1;peak b sun from 0 to 9 mirrors 1;"
                + "peak c sun from 3 to 120 mirrors 2;pass ab between a and b far 7;pass bc between b and c far 1;"
                + "pass ca between c and a far 20;cloud over ca every 5 for 2 from 1;"
                + "message m words 6 at a to b due 0;message n words 4 at b to a due 3;"
                + "message o words 9 at b to c due 0;hold o when minute < 4;";
        for (int minute = 0; minute < 60; minute++) {
            Heliographs then = Check.taught(list);
            Check.go(then, minute);
            Check.due("digest() in " + minute, digestOf(then), then.digest());
        }
        Heliographs x = Check.taught(list);
        x.go(60);
        x.feed(1, 2, 3, 4, 5);
        Check.due("digest() with a tape", digestOf(x), x.digest());
        Check.due("digest() again", digestOf(x), x.digest());
        // One peak alone, written out by hand: minute 0, one peak that has sun, and a tape of 20 bytes.
        Heliographs y = Check.taught("peak a sun from 0 to 5 mirrors 3;");
        y.feed(0, 0, 0, 0, 0);
        long d = 863;
        for (int number : new int[] {0, 1, 0, 0, 0, 0, 1, 0, 0, 0, 0, 0, 0, 20, 0, 5, 3, 3, 0, 0, 0}) {
            d = d * 31 + number;
        }
        Check.due("digest() of one peak", d, y.digest());
    }
}
