/** Promises 1 to 3: a new object, feed, trim. */
public final class TapeTest {
    public static void main(String[] args) {
        aNewObject();
        feed();
        feedUpToTheEnd();
        trim();
        Check.end();
    }

    private static void aNewObject() {
        Heliographs x = new Heliographs();
        for (int what = 0; what <= 13; what++) {
            Check.due("count(" + what + ") of a new one", 0, x.count(what));
        }
        Check.due("errorAt() of a new one", -1, x.errorAt());
        Check.due("mean() of a new one", 0.0, x.mean());
        Check.due("missed(1) of a new one", -1, x.missed(1));
        Check.due("advise(240) of a new one", -1, x.advise(240));
        long d = 863;
        for (int what = 0; what <= 13; what++) {
            d *= 31;
        }
        Check.due("digest() of a new one", d, x.digest());
        Check.due("go(3) of a new one", 0, x.go(3));
        Check.due("minute of a new one behind go(3)", 3, x.count(0));
        Check.refuses(x, "peak(0, 0) of a new one", Check.INDEX, () -> x.peak(0, 0));
    }

    private static void feed() {
        Heliographs x = new Heliographs();
        // "a b;" and blanks: the highest byte comes first.
        Check.due("feed", 20, x.feed(0x61206220, 0x20202020, 0x20202020, 0x20202020, 0x20202020));
        Check.due("teach", 1, x.teach());
        Check.due("errorAt", 0, x.errorAt());
        // "peak p sun from 0 to" "120 mirrors 1  \n    ;"
        Check.due("feed 1", 20, x.feed(0x7065616b, 0x20702073, 0x756e2066, 0x726f6d20, 0x3020746f));
        Check.due("feed 2", 40, x.feed(0x20313230, 0x206d6972, 0x726f7273, 0x20312020, 0x0a20203b));
        Check.due("count(13)", 40, x.count(13));
        Check.due("teach", 0, x.teach());
        Check.due("peaks", 1, x.count(1));
        Check.due("to", 120, x.peak(0, 1));
        Check.due("tape", 0, x.count(13));
        // Bytes above 127 are no negative ones, and none of the language.
        x.feed(0x20202020, 0x20ff8081, -1, -1, -1);
        Check.due("teach of high bytes", 1, x.teach());
        Check.due("errorAt of high bytes", 5, x.errorAt());
    }

    private static void feedUpToTheEnd() {
        Heliographs x = new Heliographs();
        for (int i = 1; i <= 100; i++) {
            Check.due("feed " + i, 20 * i, x.feed(0x20202020, 0x0a0a0a0a, 0x20202020, 0x20202020, 0x20202020));
        }
        Check.refuses(x, "feed of a full tape", Check.STATE, () -> x.feed(1, 2, 3, 4, 5));
        x.trim(1981);
        Check.refuses(x, "feed behind 1981", Check.STATE, () -> x.feed(1, 2, 3, 4, 5));
        x.trim(1980);
        Check.due("feed behind 1980", 2000, x.feed(0x20202020, 0x20202020, 0x20202020, 0x20202020, 0x20202023));
        Check.due("teach of a full tape", 1, x.teach());
        Check.due("errorAt of a full tape", 1999, x.errorAt());
        Check.due("feed behind teach", 20, x.feed(0, 0, 0, 0, 0));
    }

    private static void trim() {
        Heliographs x = new Heliographs();
        Check.refuses(x, "trim(-1)", Check.ARGUMENT, () -> x.trim(-1));
        Check.refuses(x, "trim(1) of an empty tape", Check.ARGUMENT, () -> x.trim(1));
        Check.due("trim(0) of an empty tape", 0, x.trim(0));
        Check.feed(x, "peak p sun from 0 to 120 mirrors 1;pass");
        Check.refuses(x, "trim(40)", Check.ARGUMENT, () -> x.trim(40));
        Check.refuses(x, "trim(the greatest)", Check.ARGUMENT, () -> x.trim(Integer.MAX_VALUE));
        Check.refuses(x, "trim(the least)", Check.ARGUMENT, () -> x.trim(Integer.MIN_VALUE));
        Check.due("trim(39)", 39, x.trim(39));
        Check.due("trim(35)", 35, x.trim(35));
        Check.due("count(13)", 35, x.count(13));
        Check.refuses(x, "trim(36)", Check.ARGUMENT, () -> x.trim(36));
        Check.due("teach", 0, x.teach());
        Check.due("peaks", 1, x.count(1));
        Check.refuses(x, "trim(1) behind teach", Check.ARGUMENT, () -> x.trim(1));
    }
}
