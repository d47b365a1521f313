/** Promises 14 to 16: mirror, stop, forward. */
public final class HandTest {
    private static final String LIST = "peak a sun from 0 to 120 mirrors 2;peak b sun from 0 to 120 mirrors 0;"
            + "peak c sun from 0 to 120 mirrors 4;pass ab between a and b far 1;pass bc between b and c far 1;"
            + "message m words 3 at a to b due 0;message n words 5 at c to b due 4;";

    public static void main(String[] args) {
        mirror();
        mirrorsThatAreNotFree();
        mirrorHelps();
        stop();
        forward();
        forwardRefuses();
        Check.end();
    }

    private static void mirror() {
        Heliographs x = Check.taught(LIST);
        Check.due("one more", 3, x.mirror(0, true));
        Check.due("one more", 4, x.mirror(0, true));
        Check.due("mirrors", 4, x.peak(0, 2));
        Check.refuses(x, "a fifth one", Check.STATE, () -> x.mirror(0, true));
        Check.refuses(x, "a fifth one for c", Check.STATE, () -> x.mirror(2, true));
        for (int left = 3; left >= 0; left--) {
            Check.due("one less of 4", left, x.mirror(2, false));
        }
        Check.refuses(x, "one less of none", Check.STATE, () -> x.mirror(2, false));
        Check.refuses(x, "one less of none from the list", Check.STATE, () -> x.mirror(1, false));
        Check.due("the first one", 1, x.mirror(1, true));
        Check.due("free ones", 1, x.peak(1, 3));
        Check.due("mirrors", 0, x.peak(2, 2));
        for (int peak : new int[] {-1, 3, Integer.MAX_VALUE, Integer.MIN_VALUE}) {
            Check.refuses(x, "mirror(" + peak + ", true)", Check.INDEX, () -> x.mirror(peak, true));
            Check.refuses(x, "mirror(" + peak + ", false)", Check.INDEX, () -> x.mirror(peak, false));
        }
    }

    private static void mirrorsThatAreNotFree() {
        Heliographs x = Check.taught(LIST);
        x.go(1);
        Check.due("m is flashed", 1, x.message(0, 3));
        Check.due("free ones of a", 1, x.peak(0, 3));
        Check.due("one less", 1, x.mirror(0, false));
        Check.refuses(x, "one less, not free", Check.STATE, () -> x.mirror(0, false));
        x.go(3);
        Check.due("m is there", 2, x.message(0, 3));
        Check.due("one less, free again", 0, x.mirror(0, false));
    }

    private static void mirrorHelps() {
        Heliographs x = Check.taught("peak a sun from 0 to 120 mirrors 0;peak b sun from 0 to 120 mirrors 0;"
                + "pass p between a and b far 1;pass q between a and b far 2;message m words 1 at a to b due 0;");
        Check.due("without a mirror", 0, x.go(5));
        x.mirror(0, true);
        Check.due("with a mirror", 1, x.go(2));
    }

    private static void stop() {
        Heliographs x = Check.taught(LIST);
        Check.refuses(x, "stop of one that waits", Check.STATE, () -> x.stop(0));
        x.go(3);
        Check.due("words left", 1, x.message(0, 5));
        Check.due("stop", 1, x.stop(0));
        Check.due("it waits", 0, x.message(0, 3));
        Check.due("where it was", 0, x.message(0, 1));
        Check.due("pass", -1, x.message(0, 4));
        Check.due("words left", 3, x.message(0, 5));
        Check.due("breaks", 1, x.message(0, 6));
        Check.due("breaks in all", 1, x.count(11));
        Check.due("pass is free", -1, x.pass(0, 4));
        Check.due("words over the pass", 2, x.pass(0, 5));
        Check.due("mirrors free", 2, x.peak(0, 3));
        Check.refuses(x, "stop once more", Check.STATE, () -> x.stop(0));
        x.go(1);
        Check.due("flashed again", 1, x.message(0, 3));
        Check.due("stop at once", 3, x.stop(0));
        Check.due("breaks", 2, x.message(0, 6));
        x.go(4);
        Check.due("it is there", 2, x.message(0, 3));
        Check.refuses(x, "stop of one that is there", Check.STATE, () -> x.stop(0));
        for (int message : new int[] {-1, 2, Integer.MAX_VALUE, Integer.MIN_VALUE}) {
            Check.refuses(x, "stop(" + message + ")", Check.INDEX, () -> x.stop(message));
        }
    }

    private static void forward() {
        Heliographs x = Check.taught(LIST);
        x.go(2);
        x.stop(0);
        x.go(4);
        Check.due("m is there", 2, x.message(0, 3));
        Check.due("came", 5, x.message(0, 7));
        Check.due("forward", 1, x.forward(0, 2));
        Check.due("it waits", 0, x.message(0, 3));
        Check.due("at b", 1, x.message(0, 1));
        Check.due("to c", 2, x.message(0, 2));
        Check.due("words", 3, x.message(0, 0));
        Check.due("words left", 3, x.message(0, 5));
        Check.due("pass", -1, x.message(0, 4));
        Check.due("came", -1, x.message(0, 7));
        Check.due("breaks go on", 1, x.message(0, 6));
        Check.due("passes go on", 1, x.message(0, 8));
        Check.due("messages at b", 1, x.peak(1, 4));
        Check.due("messages that are there", 0, x.count(10));
        x.mirror(1, true);
        x.go(9);
        // n is flashed over bc up to 9; behind it m is in 10, 11 and 12.
        Check.due("it is there again", 2, x.message(0, 3));
        Check.due("came again", 12, x.message(0, 7));
        Check.due("over two passes", 2, x.message(0, 8));
        Check.due("forward back", 2, x.forward(0, 0));
        Check.due("until it is back", 7, x.until(0));
        // The due stays: it is not sent on ahead of it.
        Heliographs y = Check.taught("peak a sun from 0 to 120 mirrors 1;peak b sun from 0 to 120 mirrors 1;"
                + "pass p between a and b far 1;message m words 1 at a to b due 10;");
        y.go(12);
        Check.due("there", 2, y.message(0, 3));
        y.forward(0, 0);
        y.go(1);
        Check.due("flashed back", 1, y.message(0, 3));
        y.go(1);
        Check.due("back", 13, y.message(0, 7));
    }

    private static void forwardRefuses() {
        Heliographs x = Check.taught(LIST);
        Check.refuses(x, "forward of one that waits", Check.STATE, () -> x.forward(0, 2));
        Check.refuses(x, "forward of one that waits, to its peak", Check.ARGUMENT, () -> x.forward(0, 0));
        x.go(1);
        Check.refuses(x, "forward of one that is flashed", Check.STATE, () -> x.forward(0, 1));
        Check.refuses(x, "forward of one that is flashed, to its peak", Check.ARGUMENT, () -> x.forward(0, 0));
        x.go(3);
        Check.refuses(x, "forward of one that is there, to its peak", Check.ARGUMENT, () -> x.forward(0, 1));
        for (int no : new int[] {-1, 3, Integer.MAX_VALUE, Integer.MIN_VALUE}) {
            Check.refuses(x, "forward(" + no + ", 0)", Check.INDEX, () -> x.forward(no, 0));
            Check.refuses(x, "forward(0, " + no + ")", Check.INDEX, () -> x.forward(0, no));
        }
        Check.refuses(x, "forward(2, 0)", Check.INDEX, () -> x.forward(2, 0));
    }
}
