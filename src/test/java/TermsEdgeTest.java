/** The edges that the document names ahead of the language: its terms, and what binds all calls. */
public final class TermsEdgeTest {
    private static final String MOST = "(2147*1000*1000+483647)";
    private static final String LEAST = "(-" + MOST + "-1)";
    private static final String ALL_DAY = " sun from 0 to 120 mirrors 4;";

    public static void main(String[] args) {
        Check.sentence("An object is used for at most 512 calls", TermsEdgeTest::lastCall);
        Check.sentence("sums .. of the language wrap around in 32 bits", TermsEdgeTest::sums);
        Check.sentence("differences .. of the language wrap around in 32 bits", TermsEdgeTest::differences);
        Check.sentence("products of the language wrap around in 32 bits", TermsEdgeTest::products);
        Check.sentence("/ is cut towards 0", TermsEdgeTest::cutTowardsZero);
        Check.sentence("gives 0 with 0 on the right side", TermsEdgeTest::zeroOnTheRight);
        Check.sentence("-2147483648 / -1 gives -2147483648", TermsEdgeTest::leastByMinusOne);
        Check.sentence("Positions of the tape are counted from 0, in bytes", TermsEdgeTest::positions);
        Check.sentence("Time is told in minutes, from 0", TermsEdgeTest::timeFromZero);
        Check.sentence("a day has 120 of them", TermsEdgeTest::day);
        Check.sentence("the minute of the day is the minute by the remainder of 120", TermsEdgeTest::minuteOfTheDay);
        Check.sentence("A method that throws an exception changes nothing", TermsEdgeTest::thrownChangesNothing);
        Check.sentence("If several exceptions apply, the one that is named first is thrown", TermsEdgeTest::namedFirst);
        Check.end();
    }

    private static final String TWO = "peak a" + ALL_DAY + "peak b" + ALL_DAY + "pass p between a and b far 1;"
            + "message m words 40 at a to b due 999;message n words 1 at b to a due 0;hold n when 1 = 1;";

    private static void lastCall() {
        Heliographs x = new Heliographs();
        int calls = (TWO.length() + 19) / 20;
        Check.feed(x, TWO);
        // count() and trim() of feeding, and teach().
        calls += 3;
        Check.due("teach()", 0, x.teach());
        for (; calls < 511; calls++) {
            x.go(240);
        }
        Check.due("the 512th call", 240 * (511 - (TWO.length() + 19) / 20 - 3), x.count(0));
        Heliographs y = new Heliographs();
        for (int call = 1; call <= 511; call++) {
            y.teach();
        }
        Check.due("the 512th call, behind 511 lists", 0, y.teach());
        Heliographs z = new Heliographs();
        for (int call = 1; call <= 511; call++) {
            Check.due("go(240)", 0, z.go(240));
        }
        Check.due("the 512th call, behind 122640 minutes", 122640, z.count(0));
    }

    /** The sum is just this number, and none beside it. */
    private static void is(String sum, String number) {
        Check.due(sum + " = " + number, true, Check.isHeld(sum + "=" + number, 0));
        Check.due(sum + " = " + number + " + 1", false, Check.isHeld(sum + "=" + number + "+1", 0));
        Check.due(sum + " = " + number + " - 1", false, Check.isHeld(sum + "=" + number + "-1", 0));
    }

    private static void holds(String test) {
        Check.due(test, true, Check.isHeld(test, 0));
    }

    private static void sums() {
        is(MOST + "-1+1", MOST);
        is(MOST + "+0", MOST);
        is(MOST + "+1", LEAST);
        is(MOST + "+2", LEAST + "+1");
        is(MOST + "+" + MOST, "-2");
        is(LEAST + "+" + LEAST, "0");
        holds(MOST + "-1+1>0");
        holds(MOST + "+1<0");
        holds(MOST + "+" + MOST + "<0");
    }

    private static void differences() {
        is(LEAST + "+1-1", LEAST);
        is(LEAST + "-0", LEAST);
        is(LEAST + "-1", MOST);
        is(LEAST + "-2", MOST + "-1");
        is("0-" + MOST, "-" + MOST);
        is("0-" + LEAST, LEAST);
        is("-" + MOST, LEAST + "+1");
        is("-" + LEAST, LEAST);
        is("-(" + LEAST + "+1)", MOST);
        holds(LEAST + "+1-1<0");
        holds(LEAST + "-1>0");
        holds("-" + LEAST + "<0");
    }

    private static void products() {
        is("46340*46340", "2147*1000*1000+395600");
        is("46341*46341", "-(2147*1000*1000+479015)");
        is("65536*32767", MOST + "-65535");
        is("65536*32768", LEAST);
        is("65536*32769", LEAST + "+65536");
        is("65536*65535", "-65536");
        is("65536*65536", "0");
        is("65536*65537", "65536");
        is(MOST + "*2", "-2");
        is(LEAST + "*-1", LEAST);
        is(LEAST + "*2", "0");
        is("999999*999999", "-(729*1000*1000+379967)");
        holds("46340*46340>0");
        holds("46341*46341<0");
        holds("65536*32767>0");
        holds("65536*32768<0");
    }

    private static void cutTowardsZero() {
        is("5/3", "1");
        is("6/3", "2");
        is("7/3", "2");
        is("2/3", "0");
        is("-2/3", "0");
        is("-3/3", "-1");
        is("-5/3", "-1");
        is("-6/3", "-2");
        is("-7/3", "-2");
        is("5/-3", "-1");
        is("6/-3", "-2");
        is("7/-3", "-2");
        is("-5/-3", "1");
        is("-6/-3", "2");
        is("-7/-3", "2");
        is("2/-3", "0");
    }

    private static void zeroOnTheRight() {
        for (String left : new String[] {"7", "0", "-7", MOST, LEAST}) {
            is(left + "/1", left);
            is(left + "/0", "0");
            is(left + "/-1", "0-" + left);
        }
        is("9/(3-3)", "0");
        is("9/(3-4)", "-9");
        is("9/(3-2)", "9");
        is("9/0/0", "0");
        is("9/0+4", "4");
        is("8/queue b", "0");
    }

    private static void leastByMinusOne() {
        is(LEAST + "/-1", LEAST);
        is("(" + LEAST + "+1)/-1", MOST);
        is(MOST + "/-1", LEAST + "+1");
        is(LEAST + "/-2", "1073*1000*1000+741824");
        is(LEAST + "/1", LEAST);
        is(LEAST + "/2", "-(1073*1000*1000+741824)");
        is(LEAST + "/" + LEAST, "1");
        holds(LEAST + "/-1<0");
        holds("(" + LEAST + "+1)/-1>0");
    }

    private static void positions() {
        Check.error("?", 1, 0);
        Check.error(" ?", 1, 1);
        Check.error("\n ?", 1, 2);
        Check.error("peak a sun from 0 to 0 mirrors 0;?", 1, 33);
        Check.error("peak a sun from 121 to 0 mirrors 0;", 5, 16);
        // Across the numbers and the calls that feed them a position is that of the byte.
        Heliographs x = new Heliographs();
        x.feed(0x20202020, 0x20202020, 0x20202020, 0x20202020, 0x20202020);
        x.feed(0x20202020, 0x203f2020, 0x20202020, 0x20202020, 0x20202020);
        Check.due("teach()", 1, x.teach());
        Check.due("errorAt()", 25, x.errorAt());
    }

    private static void timeFromZero() {
        Heliographs x = new Heliographs();
        Check.due("minute of a new one", 0, x.count(0));
        x.go(1);
        Check.due("minute behind one", 1, x.count(0));
        Check.due("teach()", 0, Check.teach(x, "peak a" + ALL_DAY));
        Check.due("minute behind a list", 1, x.count(0));
        x.go(240);
        Check.due("minute behind 241", 241, x.count(0));
    }

    private static void day() {
        Heliographs x = Check.taught("peak first sun from 0 to 1 mirrors 1;peak last sun from 119 to 120 mirrors 1;");
        for (int day = 0; day <= 9960; day += 120) {
            Check.due("first in " + day, true, x.hasSun(0, day));
            Check.due("last in " + day, false, x.hasSun(1, day));
            Check.due("first in " + (day + 1), false, x.hasSun(0, day + 1));
        }
        Heliographs y = Check.taught("peak first sun from 0 to 1 mirrors 1;peak last sun from 119 to 120 mirrors 1;");
        for (int day = 0; day <= 9840; day += 120) {
            Check.due("last in " + (day + 118), false, y.hasSun(1, day + 118));
            Check.due("last in " + (day + 119), true, y.hasSun(1, day + 119));
            Check.due("first in " + (day + 119), false, y.hasSun(0, day + 119));
        }
    }

    private static void minuteOfTheDay() {
        int[][] due = {{0, 0}, {1, 1}, {118, 118}, {119, 119}, {120, 0}, {121, 1}, {239, 119}, {240, 0}, {241, 1},
            {959, 119}, {960, 0}, {961, 1}, {999, 39}};
        for (int[] one : due) {
            Check.due("minute in " + one[0], true, Check.isHeld("minute=" + one[1], one[0]));
            Check.due("less in " + one[0], false, Check.isHeld("minute<" + one[1], one[0]));
            Check.due("more in " + one[0], false, Check.isHeld("minute>" + one[1], one[0]));
        }
        Heliographs x = Check.taught("peak first sun from 0 to 1 mirrors 1;peak last sun from 119 to 120 mirrors 1;");
        for (int minute : new int[] {0, 1, 118, 119, 120, 121, 239, 240, 241}) {
            Check.go(x, minute - x.count(0));
            int due6 = minute % 120 == 0 || minute % 120 == 119 ? 1 : 0;
            Check.due("peaks that have sun in " + minute, due6, x.count(6));
        }
    }

    /** Calls that are refused to Twins.busy(), of each method that refuses any, beside the edge of what is taken. */
    private static void refusedCalls(Heliographs x) {
        thrown("trim(-1)", Check.ARGUMENT, () -> x.trim(-1));
        thrown("trim(34)", Check.ARGUMENT, () -> x.trim(34));
        thrown("count(-1)", Check.INDEX, () -> x.count(-1));
        thrown("count(14)", Check.INDEX, () -> x.count(14));
        thrown("peak(3, 0)", Check.INDEX, () -> x.peak(3, 0));
        thrown("peak(2, 7)", Check.INDEX, () -> x.peak(2, 7));
        thrown("pass(3, 0)", Check.INDEX, () -> x.pass(3, 0));
        thrown("pass(2, 6)", Check.INDEX, () -> x.pass(2, 6));
        thrown("message(3, 0)", Check.INDEX, () -> x.message(3, 0));
        thrown("message(2, 9)", Check.INDEX, () -> x.message(2, 9));
        thrown("hasSun(3, 0)", Check.INDEX, () -> x.hasSun(3, 0));
        thrown("hasSun(2, 10000)", Check.ARGUMENT, () -> x.hasSun(2, 10000));
        thrown("isOpen(3, 0)", Check.INDEX, () -> x.isOpen(3, 0));
        thrown("isOpen(2, 10000)", Check.ARGUMENT, () -> x.isOpen(2, 10000));
        thrown("way(3, 0)", Check.INDEX, () -> x.way(3, 0));
        thrown("way(0, 3)", Check.INDEX, () -> x.way(0, 3));
        thrown("first(3, 0)", Check.INDEX, () -> x.first(3, 0));
        thrown("first(0, 3)", Check.INDEX, () -> x.first(0, 3));
        thrown("mirror(3, true)", Check.INDEX, () -> x.mirror(3, true));
        thrown("mirror(2, true) of 4", Check.STATE, () -> x.mirror(2, true));
        thrown("mirror(1, false), none free", Check.STATE, () -> x.mirror(1, false));
        thrown("stop(3)", Check.INDEX, () -> x.stop(3));
        thrown("stop(2)", Check.STATE, () -> x.stop(2));
        thrown("forward(3, 0)", Check.INDEX, () -> x.forward(3, 0));
        thrown("forward(0, 3)", Check.INDEX, () -> x.forward(0, 3));
        thrown("forward(0, 1)", Check.ARGUMENT, () -> x.forward(0, 1));
        thrown("forward(1, 0)", Check.STATE, () -> x.forward(1, 0));
        thrown("go(0)", Check.ARGUMENT, () -> x.go(0));
        thrown("go(241)", Check.ARGUMENT, () -> x.go(241));
        thrown("until(3)", Check.INDEX, () -> x.until(3));
        thrown("opens(3)", Check.INDEX, () -> x.opens(3));
        thrown("foresee(241, 8)", Check.ARGUMENT, () -> x.foresee(241, 8));
        thrown("foresee(240, 13)", Check.INDEX, () -> x.foresee(240, 13));
        thrown("missed(241)", Check.ARGUMENT, () -> x.missed(241));
        thrown("advise(241)", Check.ARGUMENT, () -> x.advise(241));
    }

    private static void thrown(String what, int want, Check.Call call) {
        Check.due(what + " throws", want, Check.thrownBy(call));
    }

    private static void thrownChangesNothing() {
        Heliographs x = Twins.busy();
        refusedCalls(x);
        Twins.alike("behind all calls that are refused", Twins.busy(), x);
        // Over and over: none of them leaves anything that adds up.
        Heliographs y = Twins.busy();
        for (int i = 0; i < 5; i++) {
            refusedCalls(y);
        }
        Twins.alike("behind all of them, five times", Twins.busy(), y);
    }

    private static void namedFirst() {
        Heliographs x = Twins.busy();
        // IndexOutOfBoundsException ahead of IllegalArgumentException
        thrown("hasSun(3, -1)", Check.INDEX, () -> x.hasSun(3, -1));
        thrown("hasSun(-1, 10000)", Check.INDEX, () -> x.hasSun(-1, 10000));
        thrown("isOpen(3, -1)", Check.INDEX, () -> x.isOpen(3, -1));
        thrown("isOpen(-1, 10000)", Check.INDEX, () -> x.isOpen(-1, 10000));
        // IllegalArgumentException ahead of IndexOutOfBoundsException
        thrown("foresee(0, 7)", Check.ARGUMENT, () -> x.foresee(0, 7));
        thrown("foresee(241, 13)", Check.ARGUMENT, () -> x.foresee(241, 13));
        // IndexOutOfBoundsException ahead of the others, for one of two that is there, and for a message in any state
        thrown("forward(3, 1)", Check.INDEX, () -> x.forward(3, 1));
        thrown("forward(0, 3)", Check.INDEX, () -> x.forward(0, 3));
        thrown("forward(1, 3)", Check.INDEX, () -> x.forward(1, 3));
        thrown("forward(2, -1)", Check.INDEX, () -> x.forward(2, -1));
        // IllegalArgumentException ahead of IllegalStateException
        thrown("forward(1, 1)", Check.ARGUMENT, () -> x.forward(1, 1));
        thrown("forward(2, 2)", Check.ARGUMENT, () -> x.forward(2, 2));
        // Where but one applies, it is that one.
        thrown("hasSun(2, -1)", Check.ARGUMENT, () -> x.hasSun(2, -1));
        thrown("isOpen(2, -1)", Check.ARGUMENT, () -> x.isOpen(2, -1));
        thrown("foresee(1, 7)", Check.INDEX, () -> x.foresee(1, 7));
        thrown("forward(0, 1)", Check.ARGUMENT, () -> x.forward(0, 1));
        thrown("forward(1, 2)", Check.STATE, () -> x.forward(1, 2));
        thrown("forward(2, 0)", Check.STATE, () -> x.forward(2, 0));
        Twins.alike("behind them", Twins.busy(), x);
    }
}
