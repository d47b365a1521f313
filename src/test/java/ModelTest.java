import java.util.ArrayList;
import java.util.List;

/** Runs of calls, drawn by a generator with a fixed start, answered by the program and by the model. */
public final class ModelTest {
    private static final int RUNS = 150;
    private static final int CALLS = 120;
    // Of an object's 512 calls those that a list and a call may take have to be left.
    private static final int LAST_CALL = 512 - 104 - 2;
    private static final int LISTS = 6000;
    private static final String[] ODD = {"(", ")", "[", "]", ";", ",", "+", "-", "*", "/", "<", ">", "=", "<=", ">=", "not",
        "and", "or", "min", "max", "queue", "left", "open", "carried", "minute", "peak", "pass", "cloud", "message", "hold",
        "a0", "a1", "b0", "m0", "zz", "0", "1", "7", "61", "999999", "1234567", "abcdefghijk", "\t", "!", "A", "\u00e9", "\0"};

    private long seed;
    private int calls;

    private ModelTest(long seed) {
        this.seed = seed * 2654435761L + 12345;
    }

    public static void main(String[] args) {
        int runs = args.length > 0 ? Integer.parseInt(args[0]) : RUNS;
        int lists = args.length > 1 ? Integer.parseInt(args[1]) : LISTS;
        int[] errors = new int[6];
        for (int i = 0; i < lists; i++) {
            new ModelTest(i).list(i, errors);
        }
        for (int error = 0; error < 6; error++) {
            Check.due("lists with the error " + error + " were drawn", true, errors[error] > 20);
        }
        for (int i = 0; i < runs; i++) {
            new ModelTest(1000000 + i).run(i);
        }
        Check.end();
    }

    private int draw(int below) {
        seed = seed * 6364136223846793005L + 1442695040888963407L;
        return (int) ((seed >>> 33) % below);
    }

    private boolean one(int of) {
        return draw(of) == 0;
    }

    private <T> T of(List<T> list) {
        return list.get(draw(list.size()));
    }

    // ---- lists

    private final List<String> tokens = new ArrayList<>();

    private void put(String text) {
        for (String token : text.split(" ")) {
            tokens.add(token);
        }
    }

    private String number(int least, int most) {
        return "" + (one(60) ? most + 1 : least + draw(most - least + 1));
    }

    private String name(String sort, int count) {
        return one(80) ? "zz" : sort + draw(Math.max(1, count));
    }

    private void lines(boolean isLarge) {
        int peaks = isLarge ? 3 + draw(6) : 2 + draw(3);
        int passes = isLarge ? 2 + draw(11) : 1 + draw(4);
        int messages = isLarge ? 1 + draw(8) : 1 + draw(3);
        for (int i = 0; i < peaks; i++) {
            boolean isAllDay = !one(3);
            put("peak a" + (one(150) ? 0 : i) + " sun from " + (isAllDay ? "0" : number(0, 60)) + " to "
                    + (isAllDay ? "120" : number(40, 120)) + " mirrors " + number(0, 4) + " ;");
        }
        for (int i = 0; i < passes; i++) {
            int from = draw(peaks);
            int to = one(40) ? from : (from + 1 + draw(peaks - 1)) % peaks;
            put("pass b" + (one(150) ? 0 : i) + " between " + (one(80) ? "zz" : "a" + from) + " and a" + to + " far "
                    + number(1, 20) + " ;");
        }
        int clouds = draw(one(15) ? 12 : 6);
        for (int i = 0; i < clouds; i++) {
            int every = 2 + draw(59);
            put("cloud over " + name("b", passes) + " every " + every + " for " + (one(40) ? every : 1 + draw(every - 1))
                    + " from " + number(0, 59) + " ;");
        }
        for (int i = 0; i < messages; i++) {
            int at = draw(peaks);
            int to = one(40) ? at : (at + 1 + draw(peaks - 1)) % peaks;
            put("message m" + (one(150) ? 0 : i) + " words " + number(1, one(3) ? 40 : 6) + " at a" + at + " to a" + to
                    + " due " + (one(60) ? "1000" : "" + draw(one(3) ? 400 : 30)) + " ;");
        }
        int holds = draw(one(15) ? 14 : 5);
        for (int i = 0; i < holds; i++) {
            put("hold " + name("m", messages) + " when");
            test(one(6) ? 3 : 2, peaks, passes, messages);
            put(";");
        }
    }

    private void test(int size, int peaks, int passes, int messages) {
        int sort = size <= 0 ? 3 + draw(4) : draw(7);
        switch (sort) {
            case 0 -> {
                put("not");
                test(size - 1, peaks, passes, messages);
            }
            case 1 -> {
                put("[");
                test(size - 1, peaks, passes, messages);
                put("]");
            }
            case 2 -> {
                test(size - 1, peaks, passes, messages);
                put(one(2) ? "and" : "or");
                test(size - 1, peaks, passes, messages);
            }
            case 3 -> put("open " + name("b", passes));
            case 4 -> put("carried " + name("m", messages));
            default -> {
                sum(size, peaks, messages);
                put(new String[] {"<", ">", "=", "<=", ">="}[draw(5)]);
                sum(size, peaks, messages);
            }
        }
    }

    private void sum(int size, int peaks, int messages) {
        int sort = size <= 0 ? 4 + draw(5) : draw(9);
        switch (sort) {
            case 0 -> {
                put("-");
                sum(0, peaks, messages);
            }
            case 1 -> {
                put("(");
                sum(size - 1, peaks, messages);
                put(")");
            }
            case 2 -> {
                put(one(2) ? "min (" : "max (");
                sum(size - 1, peaks, messages);
                put(",");
                sum(size - 1, peaks, messages);
                put(")");
            }
            case 3 -> {
                sum(size - 1, peaks, messages);
                put(new String[] {"+", "-", "*", "/"}[draw(4)]);
                sum(size - 1, peaks, messages);
            }
            case 4 -> put("queue " + name("a", peaks));
            case 5 -> put((one(2) ? "left " : "breaks ") + name("m", messages));
            case 6, 7 -> put("minute");
            default -> put(one(4) ? "" + draw(1000000) : "" + draw(12));
        }
    }

    private void spoil() {
        for (int i = 1 + draw(2); i > 0; i--) {
            int at = draw(tokens.size());
            switch (draw(4)) {
                case 0 -> tokens.remove(at);
                case 1 -> tokens.add(at, ODD[draw(ODD.length)]);
                case 2 -> tokens.set(at, ODD[draw(ODD.length)]);
                default -> tokens.add(at, tokens.get(draw(tokens.size())));
            }
        }
    }

    private void deepen() {
        int when = tokens.indexOf("when");
        if (when >= 0) {
            for (int i = 4 + draw(6); i > 0; i--) {
                tokens.add(when + 1, one(4) ? "[" : one(3) ? "not" : one(2) ? "-" : "(");
            }
        }
    }

    private byte[] text() {
        StringBuilder text = new StringBuilder();
        String blank = one(3) ? "\n" : " ";
        boolean isTight = one(2);
        for (String token : tokens) {
            boolean isJoined = text.length() > 0 && isLetterOrDigit(text.charAt(text.length() - 1))
                    && isLetterOrDigit(token.charAt(0));
            text.append(isTight && !isJoined ? "" : blank).append(token);
        }
        if (one(3)) {
            text.append(" \n");
        }
        byte[] bytes = new byte[Math.min(text.length(), 1980)];
        for (int i = 0; i < bytes.length; i++) {
            bytes[i] = (byte) text.charAt(i);
        }
        return bytes;
    }

    private static boolean isLetterOrDigit(char sign) {
        return sign >= 'a' && sign <= 'z' || sign >= '0' && sign <= '9';
    }

    private void feed(String what, Heliographs x, Model y, byte[] bytes) {
        for (int i = 0; i < bytes.length; i += 20) {
            int[] fed = new int[5];
            for (int j = 0; j < 20; j++) {
                fed[j / 4] = fed[j / 4] << 8 | (i + j < bytes.length ? bytes[i + j] & 255 : 32);
            }
            calls++;
            Check.due(what + "feed", y.feed(fed), x.feed(fed[0], fed[1], fed[2], fed[3], fed[4]));
        }
        Check.due(what + "trim", y.trim(bytes.length), x.trim(bytes.length));
    }

    private int teach(String what, Heliographs x, Model y) {
        byte[] bytes = text();
        calls += 3;
        feed(what, x, y, bytes);
        int error = y.teach();
        String shown = what + "teach of " + new String(bytes, java.nio.charset.StandardCharsets.ISO_8859_1) + "\n";
        Check.due(shown + "teach()", error, x.teach());
        Check.due(shown + "errorAt()", y.errorAt(), x.errorAt());
        return error;
    }

    private void list(int number, int[] errors) {
        Heliographs x = new Heliographs();
        Model y = new Model();
        lines(one(8));
        if (one(3)) {
            spoil();
        }
        if (one(10)) {
            deepen();
        }
        errors[teach("list " + number + ": ", x, y)]++;
        Check.due("list " + number + ": digest()", y.digest(), x.digest());
    }

    // ---- runs

    /** A call as a text, to be shown, and as one that both can answer. */
    private interface Answer {
        long get();
    }

    private static String answer(Answer call) {
        try {
            return "" + call.get();
        } catch (RuntimeException thrown) {
            return thrown.getClass().getSimpleName();
        }
    }

    private int some(int count) {
        return one(25) ? new int[] {-1, count, Integer.MAX_VALUE, Integer.MIN_VALUE}[draw(4)] : draw(Math.max(1, count));
    }

    private int minutes() {
        return one(25) ? new int[] {0, 241, -1, Integer.MAX_VALUE, 240}[draw(5)] : 1 + draw(one(4) ? 240 : 15);
    }

    private void run(int number) {
        Heliographs x = new Heliographs();
        Model y = new Model();
        String what = "run " + number + ": ";
        for (int tries = 0; tries < 50; tries++) {
            tokens.clear();
            lines(!one(4));
            if (teach(what, x, y) == 0) {
                break;
            }
            x = new Heliographs();
            y = new Model();
            calls = 0;
        }
        for (int i = 0; i < CALLS && calls <= LAST_CALL; i++) {
            calls += 2;
            if (one(40)) {
                tokens.clear();
                lines(one(2));
                teach(what, x, y);
            } else {
                call(what + "call " + i + ": ", x, y);
            }
            Check.due(what + "call " + i + ": digest()", y.digest(), x.digest());
        }
    }

    private void call(String what, Heliographs x, Model y) {
        int peak = some(y.peaks.size());
        int other = some(y.peaks.size());
        int pass = some(y.passes.size());
        int message = some(y.messages.size());
        int minutes = minutes();
        int told = some(14);
        boolean isMore = one(2);
        int when = one(20) ? some(10000) : draw(2000);
        String shown = what + peak + " " + other + " " + pass + " " + message + " " + minutes + " " + told + " " + when + " ";
        switch (draw(20)) {
            case 0 -> same(shown + "count", () -> y.count(told), () -> x.count(told));
            case 1 -> same(shown + "peak", () -> y.peak(peak, told % 8), () -> x.peak(peak, told % 8));
            case 2 -> same(shown + "pass", () -> y.pass(pass, told % 7), () -> x.pass(pass, told % 7));
            case 3 -> same(shown + "message", () -> y.message(message, told), () -> x.message(message, told));
            case 4 -> same(shown + "hasSun", () -> y.hasSun(peak, when) ? 1 : 0, () -> x.hasSun(peak, when) ? 1 : 0);
            case 5 -> same(shown + "isOpen", () -> y.isOpen(pass, when) ? 1 : 0, () -> x.isOpen(pass, when) ? 1 : 0);
            case 6 -> same(shown + "way", () -> y.way(peak, other), () -> x.way(peak, other));
            case 7 -> same(shown + "first", () -> y.first(peak, other), () -> x.first(peak, other));
            case 8, 9 -> same(shown + "mirror", () -> y.mirror(peak, isMore), () -> x.mirror(peak, isMore));
            case 10 -> same(shown + "stop", () -> y.stop(message), () -> x.stop(message));
            case 11 -> same(shown + "forward", () -> y.forward(message, peak), () -> x.forward(message, peak));
            case 12, 13 -> same(shown + "go", () -> y.go(minutes), () -> x.go(minutes));
            case 14 -> same(shown + "until", () -> y.until(message), () -> x.until(message));
            case 15 -> same(shown + "opens", () -> y.opens(pass), () -> x.opens(pass));
            case 16 -> same(shown + "foresee", () -> y.foresee(minutes, told), () -> x.foresee(minutes, told));
            case 17 -> same(shown + "missed", () -> y.missed(minutes), () -> x.missed(minutes));
            case 18 -> same(shown + "advise", () -> y.advise(minutes), () -> x.advise(minutes));
            default -> Check.due(shown + "mean", y.mean(), x.mean());
        }
    }

    private static void same(String what, Answer due, Answer got) {
        String one = answer(due);
        String two = answer(got);
        Check.due(what + " answered " + two + ", due is " + one, true, one.equals(two));
    }
}
