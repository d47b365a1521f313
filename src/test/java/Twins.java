/** Two objects that have to be alike in all that they tell, now and later; and one that is worth comparing. */
final class Twins {
    private static final String BUSY = "peak a sun from 0 to 120 mirrors 2;peak b sun from 0 to 60 mirrors 1;"
            + "peak c sun from 0 to 120 mirrors 4;pass ab between a and b far 7;pass bc between b and c far 2;"
            + "pass ac between a and c far 20;cloud over bc every 10 for 3 from 4;"
            + "message m words 4 at a to b due 0;message n words 9 at b to c due 0;message o words 3 at c to a due 9;"
            + "hold o when queue c > 1 or minute < 5;";

    private Twins() {
    }

    /**
     * In the minute 6: m (0) is there and lost a word, n (1) is flashed from b and broke off once, o (2) waits at c;
     * a has 2 mirrors, b one, and none that is free, c 4. The latest list had an error, and there is another one, of
     * 33 bytes, on the tape.
     */
    static Heliographs busy() {
        Heliographs x = Check.taught(BUSY);
        x.go(2);
        x.stop(1);
        x.go(4);
        Check.due("m is there", 2, x.message(0, 3));
        Check.due("n is flashed", 1, x.message(1, 3));
        Check.due("o waits", 0, x.message(2, 3));
        Check.due("free mirrors of b", 0, x.peak(1, 3));
        Check.due("a list with an error", 1, Check.teach(x, "peak a son"));
        Check.feed(x, "peak z sun from 3 to 9 mirrors 1;");
        return x;
    }

    static void alike(String what, Heliographs due, Heliographs got) {
        Check.due("errorAt() " + what, due.errorAt(), got.errorAt());
        alikeButErrorAt(what, due, got);
    }

    /** Both are used up by this: minutes go by, and they are taught what stands on the tape. */
    static void alikeButErrorAt(String what, Heliographs due, Heliographs got) {
        told(what, due, got);
        wouldBe(what, due, got);
        Check.due("digest() " + what, due.digest(), got.digest());
        Check.due("go(7) " + what, due.go(7), got.go(7));
        Check.due("digest() 7 minutes " + what, due.digest(), got.digest());
        int error = due.teach();
        Check.due("teach() " + what, error, got.teach());
        Check.due("errorAt() behind teach() " + what, due.errorAt(), got.errorAt());
        Check.due("digest() behind teach() " + what, due.digest(), got.digest());
    }

    private static void told(String what, Heliographs due, Heliographs got) {
        for (int i = 0; i <= 13; i++) {
            Check.due("count(" + i + ") " + what, due.count(i), got.count(i));
        }
        for (int peak = 0; peak < due.count(1); peak++) {
            for (int i = 0; i <= 6; i++) {
                Check.due("peak(" + peak + ", " + i + ") " + what, due.peak(peak, i), got.peak(peak, i));
            }
        }
        for (int pass = 0; pass < due.count(2); pass++) {
            for (int i = 0; i <= 5; i++) {
                Check.due("pass(" + pass + ", " + i + ") " + what, due.pass(pass, i), got.pass(pass, i));
            }
        }
        for (int message = 0; message < due.count(4); message++) {
            for (int i = 0; i <= 8; i++) {
                Check.due("message(" + message + ", " + i + ") " + what, due.message(message, i), got.message(message, i));
            }
        }
    }

    private static void wouldBe(String what, Heliographs due, Heliographs got) {
        for (int message = 0; message < due.count(4); message++) {
            Check.due("until(" + message + ") " + what, due.until(message), got.until(message));
        }
        for (int pass = 0; pass < due.count(2); pass++) {
            Check.due("opens(" + pass + ") " + what, due.opens(pass), got.opens(pass));
        }
        for (int i = 8; i <= 12; i++) {
            Check.due("foresee(60, " + i + ") " + what, due.foresee(60, i), got.foresee(60, i));
        }
        Check.due("missed(60) " + what, due.missed(60), got.missed(60));
        Check.due("advise(60) " + what, due.advise(60), got.advise(60));
        Check.due("mean() " + what, due.mean(), got.mean());
    }
}
