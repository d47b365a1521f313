import java.util.function.Consumer;
import java.util.function.Supplier;

/** What the tests share: counting wrong answers, and feeding texts. */
final class Check {
    static final int NOTHING = 0;
    static final int STATE = 1;
    static final int ARGUMENT = 2;
    static final int INDEX = 3;

    private static int wrong = 0;
    private static String sentence = "";

    private Check() {
    }

    /** A sentence of the document, and the test of what it says. */
    static void sentence(String words, Runnable test) {
        sentence = "\"" + words + "\": ";
        test.run();
        sentence = "";
    }

    /** A call whose exception is looked at. */
    interface Call {
        void run();
    }

    static void due(String what, long want, long got) {
        if (want != got) {
            wrong(what, "" + want, "" + got);
        }
    }

    static void due(String what, boolean want, boolean got) {
        due(what, want ? 1 : 0, got ? 1 : 0);
    }

    static void due(String what, double want, double got) {
        if (want != got) {
            wrong(what, "" + want, "" + got);
        }
    }

    private static void wrong(String what, String want, String got) {
        wrong++;
        System.out.println(sentence + what + " answered " + got + ", due is " + want);
    }

    /** The call throws exactly this, and nothing of the object is changed by it. */
    static void refuses(Heliographs x, String what, int want, Call call) {
        long before = x.digest();
        int fault = x.errorAt();
        due(what + " throws", want, thrownBy(call));
        due("digest() behind " + what, before, x.digest());
        due("errorAt() behind " + what, fault, x.errorAt());
    }

    /** The call throws exactly this, and the object answers as a twin of it, made alike, on which it was not called. */
    static void refused(String what, int want, Supplier<Heliographs> made, Consumer<Heliographs> call) {
        Heliographs x = made.get();
        due(what + " throws", want, thrownBy(() -> call.accept(x)));
        Twins.alike("behind " + what, made.get(), x);
    }

    static int thrownBy(Call call) {
        try {
            call.run();
            return NOTHING;
        } catch (RuntimeException thrown) {
            Class<?> sort = thrown.getClass();
            return sort == IllegalStateException.class ? STATE
                    : sort == IllegalArgumentException.class ? ARGUMENT
                    : sort == IndexOutOfBoundsException.class ? INDEX : -1;
        }
    }

    static void feed(Heliographs x, String text) {
        byte[] bytes = new byte[text.length()];
        for (int i = 0; i < bytes.length; i++) {
            bytes[i] = (byte) text.charAt(i);
        }
        feed(x, bytes);
    }

    /** Appends the bytes, filled up to twenty and trimmed again. */
    static void feed(Heliographs x, byte[] bytes) {
        int length = x.count(13) + bytes.length;
        for (int i = 0; i < bytes.length; i += 20) {
            x.feed(number(bytes, i), number(bytes, i + 4), number(bytes, i + 8), number(bytes, i + 12),
                    number(bytes, i + 16));
        }
        x.trim(length);
    }

    private static int number(byte[] bytes, int start) {
        int number = 0;
        for (int i = start; i < start + 4; i++) {
            number = number << 8 | (i < bytes.length ? bytes[i] & 255 : 0);
        }
        return number;
    }

    static int teach(Heliographs x, String text) {
        feed(x, text);
        return x.teach();
    }

    /** A new object that has learned the text, which has to be without an error. */
    static Heliographs taught(String text) {
        Heliographs x = new Heliographs();
        due("teach() of " + text, 0, teach(x, text));
        due("errorAt() behind " + text, -1, x.errorAt());
        return x;
    }

    /** The text has this error at this position, and leaves all else as it was. */
    static void error(String text, int error, int position) {
        Heliographs x = new Heliographs();
        teach(x, "peak old sun from 0 to 120 mirrors 1;");
        long before = x.digest();
        due("teach() of " + text, error, teach(x, text));
        due("errorAt() of " + text, position, x.errorAt());
        due("digest() behind " + text, before, x.digest());
        due("peaks behind " + text, 1, x.count(1));
        due("tape behind " + text, 0, x.count(13));
    }

    /** The error is at the sign # of the text, which is not fed. */
    static void errorAtMark(int error, String text) {
        int mark = text.indexOf('#');
        error(text.substring(0, mark) + text.substring(mark + 1), error, mark);
    }

    /** Whether a message is held by the test, in this minute, 999 at most. */
    static boolean isHeld(String test, int minute) {
        Heliographs x = taught("peak a sun from 0 to 120 mirrors 1;peak b sun from 0 to 120 mirrors 1;"
                + "pass p between a and b far 1;message m words 7 at a to b due " + minute + ";hold m when " + test + ";");
        go(x, minute + 1);
        return x.message(0, 3) == 0;
    }

    /** The minutes between, as go() takes only 240 at once. */
    static void go(Heliographs x, int minutes) {
        for (int left = minutes; left > 0; left -= 240) {
            x.go(left < 240 ? left : 240);
        }
    }

    static void end() {
        if (wrong > 0) {
            System.out.println(wrong + " answers are not as due");
            System.exit(1);
        }
    }
}
