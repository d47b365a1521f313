/** A heliograph chain across passes. */
public final class Heliographs {
    private static final int MOST_BYTES = 2000;
    private static final int FED_BYTES = 20;
    private static final int MOST_TOKENS = 400;
    private static final int MOST_DEPTH = 8;
    private static final int MOST_WORD_BYTES = 10;
    private static final int MOST_DIGITS = 6;

    private static final int MOST_PEAKS = 8;
    private static final int MOST_PASSES = 12;
    private static final int MOST_CLOUDS = 8;
    private static final int MOST_MESSAGES = 8;
    private static final int MOST_HOLDS = 12;
    private static final int MOST_MIRRORS = 4;
    private static final int MOST_FAR = 20;
    private static final int MOST_EVERY = 60;
    private static final int MOST_WORDS = 40;
    private static final int LATEST_DUE = 999;

    private static final int DAY = 120;
    private static final int LATEST_MINUTE = 9999;
    private static final int MOST_MINUTES = 240;
    private static final int MOST_UNTIL = 360;

    private static final int LOSING_FAR = 7;
    private static final int LOSING_STEP = 5;
    private static final int DIGEST_START = 863;
    private static final int DIGEST_STEP = 31;

    private static final int LAST_COUNT = 13;
    private static final int LAST_OF_PEAK = 6;
    private static final int LAST_OF_PASS = 5;
    private static final int LAST_OF_MESSAGE = 8;
    private static final int FIRST_FORESEEN = 8;
    private static final int LAST_FORESEEN = 12;

    private static final int NONE = -1;
    // Far above the far of any way, and far below what would overflow.
    private static final int NO_WAY = 1000000;

    private static final int WAITS = 0;
    private static final int FLASHED = 1;
    private static final int THERE = 2;

    private static final int ERROR_GRAMMAR = 1;
    private static final int ERROR_TWICE = 2;
    private static final int ERROR_UNKNOWN = 3;
    private static final int ERROR_TOO_MANY = 4;
    private static final int ERROR_RANGE = 5;

    private static final Kind[] KINDS = Kind.values();

    private final Tape tape = new Tape();
    private final Tokens tokens = new Tokens();
    private final Reader reader;
    private final Chain now;
    // What would be is tried on this one, so that nothing is changed.
    private final Chain trial;
    // The next list is read into this one, so that the old one stays if it has an error.
    private Plan spare = new Plan();
    private int faultAt = NONE;

    public Heliographs() {
        Plan empty = new Plan();
        now = new Chain(empty);
        trial = new Chain(empty);
        reader = new Reader(tokens, spare);
    }

    // ---- the language

    public int feed(int a, int b, int c, int d, int e) throws IllegalStateException {
        if (tape.length + FED_BYTES > MOST_BYTES) {
            throw new IllegalStateException("the tape would be too long");
        }
        tape.append(a);
        tape.append(b);
        tape.append(c);
        tape.append(d);
        tape.append(e);
        return tape.length;
    }

    public int trim(int n) throws IllegalArgumentException {
        if (n < 0 || n > tape.length) {
            throw new IllegalArgumentException("the tape is not that long");
        }
        tape.length = n;
        return n;
    }

    public int teach() {
        tokens.scan(tape);
        int fault = reader.read(spare);
        faultAt = reader.faultAt;
        tape.length = 0;
        if (fault == 0) {
            Plan old = now.plan;
            now.begin(spare);
            spare = old;
        }
        return fault;
    }

    public int errorAt() {
        return faultAt;
    }

    public int count(int what) throws IndexOutOfBoundsException {
        if (what < 0 || what > LAST_COUNT) {
            throw new IndexOutOfBoundsException("there is no such count");
        }
        return countTold(what);
    }

    // ---- what there is

    public int peak(int peak, int what) throws IndexOutOfBoundsException {
        if (!now.plan.hasPeak(peak) || what < 0 || what > LAST_OF_PEAK) {
            throw new IndexOutOfBoundsException("there is no such peak, or no such number of it");
        }
        return now.peakTold(peak, what);
    }

    public int pass(int pass, int what) throws IndexOutOfBoundsException {
        if (!now.plan.hasPass(pass) || what < 0 || what > LAST_OF_PASS) {
            throw new IndexOutOfBoundsException("there is no such pass, or no such number of it");
        }
        return now.passTold(pass, what);
    }

    public int message(int message, int what) throws IndexOutOfBoundsException {
        if (!now.plan.hasMessage(message) || what < 0 || what > LAST_OF_MESSAGE) {
            throw new IndexOutOfBoundsException("there is no such message, or no such number of it");
        }
        return now.messageTold(message, what);
    }

    public boolean hasSun(int peak, int minute) throws IndexOutOfBoundsException, IllegalArgumentException {
        if (!now.plan.hasPeak(peak)) {
            throw new IndexOutOfBoundsException("there is no such peak");
        }
        if (minute < 0 || minute > LATEST_MINUTE) {
            throw new IllegalArgumentException("the minute is out of its range");
        }
        return now.plan.isSunny(peak, minute);
    }

    public boolean isOpen(int pass, int minute) throws IndexOutOfBoundsException, IllegalArgumentException {
        if (!now.plan.hasPass(pass)) {
            throw new IndexOutOfBoundsException("there is no such pass");
        }
        if (minute < 0 || minute > LATEST_MINUTE) {
            throw new IllegalArgumentException("the minute is out of its range");
        }
        return now.isPassable(pass, minute);
    }

    public int way(int a, int b) throws IndexOutOfBoundsException {
        if (!now.plan.hasPeak(a) || !now.plan.hasPeak(b)) {
            throw new IndexOutOfBoundsException("there is no such peak");
        }
        now.look();
        return now.farOfWay(a, b);
    }

    public int first(int a, int b) throws IndexOutOfBoundsException {
        if (!now.plan.hasPeak(a) || !now.plan.hasPeak(b)) {
            throw new IndexOutOfBoundsException("there is no such peak");
        }
        now.look();
        return now.firstPassOfWay(a, b);
    }

    // ---- by hand

    public int mirror(int peak, boolean isMore) throws IndexOutOfBoundsException, IllegalStateException {
        if (!now.plan.hasPeak(peak)) {
            throw new IndexOutOfBoundsException("there is no such peak");
        }
        if (isMore && now.mirrors[peak] >= MOST_MIRRORS) {
            throw new IllegalStateException("the peak has all the mirrors that it can have");
        }
        if (!isMore && now.freeMirrors(peak) <= 0) {
            throw new IllegalStateException("no mirror of the peak is free");
        }
        now.mirrors[peak] += isMore ? 1 : -1;
        return now.mirrors[peak];
    }

    public int stop(int message) throws IndexOutOfBoundsException, IllegalStateException {
        if (!now.plan.hasMessage(message)) {
            throw new IndexOutOfBoundsException("there is no such message");
        }
        if (now.state[message] != FLASHED) {
            throw new IllegalStateException("the message is not flashed");
        }
        int left = now.left[message];
        now.breakOff(message);
        return left;
    }

    public int forward(int message, int peak)
            throws IndexOutOfBoundsException, IllegalArgumentException, IllegalStateException {
        if (!now.plan.hasMessage(message) || !now.plan.hasPeak(peak)) {
            throw new IndexOutOfBoundsException("there is no such message, or no such peak");
        }
        if (now.place[message] == peak) {
            throw new IllegalArgumentException("the message is at that peak");
        }
        if (now.state[message] != THERE) {
            throw new IllegalStateException("the message is not there");
        }
        now.goal[message] = peak;
        now.came[message] = NONE;
        now.letWait(message);
        return now.place[message];
    }

    // ---- minutes

    public int go(int minutes) throws IllegalArgumentException {
        if (minutes < 1 || minutes > MOST_MINUTES) {
            throw new IllegalArgumentException("the minutes are out of their range");
        }
        int before = now.messagesIn(THERE);
        now.run(minutes);
        return now.messagesIn(THERE) - before;
    }

    // ---- what would be

    public int until(int message) throws IndexOutOfBoundsException {
        if (!now.plan.hasMessage(message)) {
            throw new IndexOutOfBoundsException("there is no such message");
        }
        trial.copy(now);
        for (int minutes = 0; minutes <= MOST_UNTIL; minutes++) {
            if (trial.state[message] == THERE) {
                return minutes;
            }
            trial.run(1);
        }
        return NONE;
    }

    public int opens(int pass) throws IndexOutOfBoundsException {
        if (!now.plan.hasPass(pass)) {
            throw new IndexOutOfBoundsException("there is no such pass");
        }
        for (int minutes = 0; minutes <= MOST_MINUTES; minutes++) {
            if (now.isPassable(pass, now.minute + minutes)) {
                return minutes;
            }
        }
        return NONE;
    }

    public int foresee(int minutes, int what) throws IllegalArgumentException, IndexOutOfBoundsException {
        if (minutes < 1 || minutes > MOST_MINUTES) {
            throw new IllegalArgumentException("the minutes are out of their range");
        }
        if (what < FIRST_FORESEEN || what > LAST_FORESEEN) {
            throw new IndexOutOfBoundsException("this can not be foreseen");
        }
        trial.copy(now);
        trial.run(minutes);
        return trial.tally(what);
    }

    public int missed(int minutes) throws IllegalArgumentException {
        if (minutes < 1 || minutes > MOST_MINUTES) {
            throw new IllegalArgumentException("the minutes are out of their range");
        }
        int best = NONE;
        int fewest = MOST_MESSAGES + 1;
        for (int pass = 0; pass < now.plan.passes; pass++) {
            trial.copy(now);
            trial.shut = pass;
            trial.run(minutes);
            int there = trial.messagesIn(THERE);
            if (there < fewest) {
                fewest = there;
                best = pass;
            }
        }
        return best;
    }

    public int advise(int minutes) throws IllegalArgumentException {
        if (minutes < 1 || minutes > MOST_MINUTES) {
            throw new IllegalArgumentException("the minutes are out of their range");
        }
        trial.copy(now);
        trial.run(minutes);
        int best = NONE;
        int most = trial.messagesIn(THERE);
        for (int peak = 0; peak < now.plan.peaks; peak++) {
            trial.copy(now);
            trial.mirrors[peak]++;
            trial.run(minutes);
            int there = trial.messagesIn(THERE);
            if (there > most) {
                most = there;
                best = peak;
            }
        }
        return best;
    }

    public double mean() {
        int messages = now.plan.messages;
        if (messages == 0) {
            return 0.0;
        }
        int words = 0;
        for (int message = 0; message < messages; message++) {
            words += now.left[message];
        }
        return (double) words / messages;
    }

    public long digest() {
        long d = DIGEST_START;
        for (int what = 0; what <= LAST_COUNT; what++) {
            d = d * DIGEST_STEP + countTold(what);
        }
        for (int peak = 0; peak < now.plan.peaks; peak++) {
            for (int what = 0; what <= LAST_OF_PEAK; what++) {
                d = d * DIGEST_STEP + now.peakTold(peak, what);
            }
        }
        for (int pass = 0; pass < now.plan.passes; pass++) {
            for (int what = 0; what <= LAST_OF_PASS; what++) {
                d = d * DIGEST_STEP + now.passTold(pass, what);
            }
            d = d * DIGEST_STEP + (now.isPassable(pass, now.minute) ? 1 : 0);
        }
        for (int message = 0; message < now.plan.messages; message++) {
            for (int what = 0; what <= LAST_OF_MESSAGE; what++) {
                d = d * DIGEST_STEP + now.messageTold(message, what);
            }
        }
        return d;
    }

    private int countTold(int what) {
        switch (what) {
            case 0:
                return now.minute;
            case 1:
                return now.plan.peaks;
            case 2:
                return now.plan.passes;
            case 3:
                return now.plan.clouds;
            case 4:
                return now.plan.messages;
            case 5:
                return now.plan.orders.count;
            case 6:
                return now.sunnyPeaks();
            case 7:
                return now.openPasses();
            case LAST_COUNT:
                return tape.length;
            default:
                return now.tally(what);
        }
    }

    /** The bytes that were fed, each 0 to 255. */
    private static final class Tape {
        private final int[] bytes = new int[MOST_BYTES];
        int length;

        void append(int number) {
            for (int shift = 24; shift >= 0; shift -= 8) {
                if (length < bytes.length) {
                    bytes[length] = (number >>> shift) & 255;
                    length++;
                }
            }
        }

        /** The byte at a position, or -1 behind the end. */
        int byteAt(int position) {
            if (position < 0 || position >= length || position >= bytes.length) {
                return NONE;
            }
            return bytes[position];
        }

        boolean reads(String text, int start, int end) {
            if (text.length() != end - start) {
                return false;
            }
            for (int i = 0; i < text.length(); i++) {
                if (byteAt(start + i) != text.charAt(i)) {
                    return false;
                }
            }
            return true;
        }
    }

    /** The kinds of tokens; those without a text are told apart by their bytes. */
    private enum Kind {
        PEAK("peak"), SUN("sun"), FROM("from"), TO("to"), MIRRORS("mirrors"), PASS("pass"), BETWEEN("between"),
        AND("and"), FAR("far"), CLOUD("cloud"), OVER("over"), EVERY("every"), FOR("for"), MESSAGE("message"),
        WORDS("words"), AT("at"), DUE("due"), HOLD("hold"), WHEN("when"), MINUTE("minute"), QUEUE("queue"),
        LEFT("left"), BREAKS("breaks"), OPEN("open"), CARRIED("carried"), NOT("not"), OR("or"), MIN("min"),
        MAX("max"),
        ROUND_OPENS("("), ROUND_CLOSES(")"), SQUARE_OPENS("["), SQUARE_CLOSES("]"), SEMICOLON(";"), COMMA(","),
        PLUS("+"), MINUS("-"), TIMES("*"), DIVIDED("/"), LESS("<"), GREATER(">"), EQUAL("="), AT_MOST("<="),
        AT_LEAST(">="),
        NAME(""), NUMBER(""), END(""), BAD("");

        final String text;

        Kind(String text) {
            this.text = text;
        }
    }

    /** The tokens of a tape, up to its end or to the first that is none, and the one that is looked at. */
    private static final class Tokens {
        private final Kind[] kinds = new Kind[MOST_TOKENS + 1];
        private final int[] starts = new int[MOST_TOKENS + 1];
        private final long[] values = new long[MOST_TOKENS + 1];
        private int count;
        private int at;
        private int next;
        private long value;

        void scan(Tape tape) {
            count = 0;
            at = 0;
            next = 0;
            boolean isGood = true;
            for (int i = 0; i < MOST_TOKENS && isGood; i++) {
                skipBlanks(tape);
                isGood = scanToken(tape);
            }
            if (isGood) {
                skipBlanks(tape);
                keep(next < tape.length ? Kind.BAD : Kind.END, next);
            }
        }

        Kind kind() {
            return at < count && at < kinds.length ? kinds[at] : Kind.BAD;
        }

        int start() {
            return at < count && at < starts.length ? starts[at] : 0;
        }

        /** What a number says, or a word, written as a number. */
        long value() {
            return at < count && at < values.length ? values[at] : 0;
        }

        void advance() {
            if (at < count) {
                at++;
            }
        }

        /** Behind this no token is of any use: all that is looked at is bad. */
        void giveUp() {
            at = count;
        }

        private void skipBlanks(Tape tape) {
            while (next < tape.length && (tape.byteAt(next) == ' ' || tape.byteAt(next) == '\n')) {
                next++;
            }
        }

        private boolean scanToken(Tape tape) {
            int start = next;
            int sign = tape.byteAt(start);
            Kind kind;
            value = 0;
            if (sign < 0) {
                kind = Kind.END;
            } else if (isLetter(sign)) {
                kind = scanWord(tape);
            } else if (isDigit(sign)) {
                kind = scanNumber(tape);
            } else {
                kind = scanSymbol(tape);
            }
            keep(kind, start);
            return kind != Kind.END && kind != Kind.BAD;
        }

        /** Ten signs of 37 sorts fit into a long, so that equal numbers are equal words. */
        private Kind scanWord(Tape tape) {
            int start = next;
            while (next < tape.length && (isLetter(tape.byteAt(next)) || isDigit(tape.byteAt(next)))) {
                int sign = tape.byteAt(next);
                value = value * 37 + (isLetter(sign) ? sign - 'a' + 1 : sign - '0' + 27);
                next++;
            }
            if (next - start > MOST_WORD_BYTES) {
                return Kind.BAD;
            }
            Kind keyword = kindOf(tape, start, next);
            return keyword == Kind.BAD ? Kind.NAME : keyword;
        }

        private Kind scanNumber(Tape tape) {
            int start = next;
            while (next < tape.length && isDigit(tape.byteAt(next))) {
                value = value * 10 + (tape.byteAt(next) - '0');
                next++;
            }
            return next - start > MOST_DIGITS ? Kind.BAD : Kind.NUMBER;
        }

        private Kind scanSymbol(Tape tape) {
            int start = next;
            int sign = tape.byteAt(start);
            boolean isOfTwo = (sign == '<' || sign == '>') && tape.byteAt(start + 1) == '=';
            next = start + (isOfTwo ? 2 : 1);
            return kindOf(tape, start, next);
        }

        private static Kind kindOf(Tape tape, int start, int end) {
            for (int i = 0; i < KINDS.length; i++) {
                if (tape.reads(KINDS[i].text, start, end)) {
                    return KINDS[i];
                }
            }
            return Kind.BAD;
        }

        private void keep(Kind kind, int start) {
            if (count < kinds.length) {
                kinds[count] = kind;
                starts[count] = start;
                values[count] = value;
                count++;
            }
        }

        private static boolean isLetter(int sign) {
            return sign >= 'a' && sign <= 'z';
        }

        private static boolean isDigit(int sign) {
            return sign >= '0' && sign <= '9';
        }
    }

    /** Reads tokens as a list into a plan, and finds the first error. */
    private static final class Reader {
        private final long[] peakNames = new long[MOST_PEAKS];
        private final long[] passNames = new long[MOST_PASSES];
        private final long[] messageNames = new long[MOST_MESSAGES];
        private final Tokens tokens;
        private Plan plan;
        private int fault;
        int faultAt;

        Reader(Tokens scanned, Plan first) {
            tokens = scanned;
            plan = first;
        }

        /** Returns 0, or the error. */
        int read(Plan into) {
            plan = into;
            plan.clear();
            fault = 0;
            faultAt = NONE;
            for (int i = 0; i < MOST_TOKENS && fault != ERROR_GRAMMAR && tokens.kind() != Kind.END; i++) {
                if (accept(Kind.PEAK)) {
                    readPeak();
                } else if (accept(Kind.PASS)) {
                    readPass();
                } else if (tokens.kind() == Kind.CLOUD) {
                    readCloud();
                } else if (accept(Kind.MESSAGE)) {
                    readMessage();
                } else if (tokens.kind() == Kind.HOLD) {
                    readHold();
                } else {
                    fail();
                }
                expect(Kind.SEMICOLON);
            }
            return fault;
        }

        private void readPeak() {
            long name = newName(peakNames, plan.peaks);
            expect(Kind.SUN);
            expect(Kind.FROM);
            int from = number(0, DAY);
            expect(Kind.TO);
            int to = number(0, DAY);
            expect(Kind.MIRRORS);
            int mirrors = number(0, MOST_MIRRORS);
            if (fault == 0 && plan.peaks < peakNames.length) {
                peakNames[plan.peaks] = name;
                plan.addPeak(from, to, mirrors);
            }
        }

        private void readPass() {
            long name = newName(passNames, plan.passes);
            expect(Kind.BETWEEN);
            int one = oldName(peakNames, plan.peaks);
            expect(Kind.AND);
            int other = otherPeak(one);
            expect(Kind.FAR);
            int far = number(1, MOST_FAR);
            if (fault == 0 && plan.passes < passNames.length) {
                passNames[plan.passes] = name;
                plan.addPass(one, other, far);
            }
        }

        private void readCloud() {
            if (plan.clouds >= MOST_CLOUDS) {
                complain(ERROR_TOO_MANY);
            }
            expect(Kind.CLOUD);
            expect(Kind.OVER);
            int pass = oldName(passNames, plan.passes);
            expect(Kind.EVERY);
            int every = number(2, MOST_EVERY);
            expect(Kind.FOR);
            int lasts = number(1, every - 1);
            expect(Kind.FROM);
            int from = number(0, MOST_EVERY - 1);
            if (fault == 0) {
                plan.addCloud(pass, every, lasts, from);
            }
        }

        private void readMessage() {
            long name = newName(messageNames, plan.messages);
            expect(Kind.WORDS);
            int words = number(1, MOST_WORDS);
            expect(Kind.AT);
            int at = oldName(peakNames, plan.peaks);
            expect(Kind.TO);
            int to = otherPeak(at);
            expect(Kind.DUE);
            int due = number(0, LATEST_DUE);
            if (fault == 0 && plan.messages < messageNames.length) {
                messageNames[plan.messages] = name;
                plan.addMessage(words, at, to, due);
            }
        }

        private void readHold() {
            if (plan.orders.count >= MOST_HOLDS) {
                complain(ERROR_TOO_MANY);
            }
            expect(Kind.HOLD);
            int message = oldName(messageNames, plan.messages);
            expect(Kind.WHEN);
            readTest(0);
            if (fault == 0) {
                plan.orders.close(message);
            }
        }

        private void readTest(int depth) {
            readBoth(depth);
            for (int i = 0; i < MOST_TOKENS && accept(Kind.OR); i++) {
                readBoth(depth);
                emit(Orders.OR, 0);
            }
        }

        private void readBoth(int depth) {
            readSingle(depth);
            for (int i = 0; i < MOST_TOKENS && accept(Kind.AND); i++) {
                readSingle(depth);
                emit(Orders.AND, 0);
            }
        }

        private void readSingle(int depth) {
            if (tokens.kind() == Kind.NOT) {
                if (goDeeper(Kind.NOT, depth)) {
                    readSingle(depth + 1);
                    emit(Orders.NOT, 0);
                }
            } else if (tokens.kind() == Kind.SQUARE_OPENS) {
                if (goDeeper(Kind.SQUARE_OPENS, depth)) {
                    readTest(depth + 1);
                    expect(Kind.SQUARE_CLOSES);
                }
            } else if (accept(Kind.OPEN)) {
                emit(Orders.OPEN, oldName(passNames, plan.passes));
            } else if (accept(Kind.CARRIED)) {
                emit(Orders.CARRIED, oldName(messageNames, plan.messages));
            } else {
                readSum(depth);
                int comparison = comparisonOf(tokens.kind());
                if (comparison == NONE) {
                    fail();
                } else {
                    tokens.advance();
                    readSum(depth);
                    emit(comparison, 0);
                }
            }
        }

        private static int comparisonOf(Kind kind) {
            if (kind == Kind.LESS) {
                return Orders.LESS;
            }
            if (kind == Kind.GREATER) {
                return Orders.GREATER;
            }
            if (kind == Kind.EQUAL) {
                return Orders.EQUAL;
            }
            if (kind == Kind.AT_MOST) {
                return Orders.AT_MOST;
            }
            return kind == Kind.AT_LEAST ? Orders.AT_LEAST : NONE;
        }

        private void readSum(int depth) {
            readProduct(depth);
            for (int i = 0; i < MOST_TOKENS; i++) {
                int op = tokens.kind() == Kind.PLUS ? Orders.PLUS : tokens.kind() == Kind.MINUS ? Orders.MINUS : NONE;
                if (op == NONE) {
                    return;
                }
                tokens.advance();
                readProduct(depth);
                emit(op, 0);
            }
        }

        private void readProduct(int depth) {
            readValue(depth);
            for (int i = 0; i < MOST_TOKENS; i++) {
                int op = tokens.kind() == Kind.TIMES ? Orders.TIMES
                        : tokens.kind() == Kind.DIVIDED ? Orders.DIVIDED : NONE;
                if (op == NONE) {
                    return;
                }
                tokens.advance();
                readValue(depth);
                emit(op, 0);
            }
        }

        private void readValue(int depth) {
            if (tokens.kind() == Kind.NUMBER) {
                emit(Orders.NUMBER, (int) tokens.value());
                tokens.advance();
            } else if (accept(Kind.MINUTE)) {
                emit(Orders.MINUTE, 0);
            } else if (accept(Kind.QUEUE)) {
                emit(Orders.QUEUE, oldName(peakNames, plan.peaks));
            } else if (accept(Kind.LEFT)) {
                emit(Orders.LEFT, oldName(messageNames, plan.messages));
            } else if (accept(Kind.BREAKS)) {
                emit(Orders.BREAKS, oldName(messageNames, plan.messages));
            } else if (tokens.kind() == Kind.MINUS) {
                if (goDeeper(Kind.MINUS, depth)) {
                    readValue(depth + 1);
                    emit(Orders.NEGATE, 0);
                }
            } else if (tokens.kind() == Kind.ROUND_OPENS) {
                if (goDeeper(Kind.ROUND_OPENS, depth)) {
                    readSum(depth + 1);
                    expect(Kind.ROUND_CLOSES);
                }
            } else if (accept(Kind.MIN)) {
                readTwoSums(Orders.MIN, depth);
            } else if (accept(Kind.MAX)) {
                readTwoSums(Orders.MAX, depth);
            } else {
                fail();
            }
        }

        private void readTwoSums(int op, int depth) {
            if (goDeeper(Kind.ROUND_OPENS, depth)) {
                readSum(depth + 1);
                expect(Kind.COMMA);
                readSum(depth + 1);
                expect(Kind.ROUND_CLOSES);
                emit(op, 0);
            }
        }

        /** Reads the token behind which the depth is one greater, unless it would be too great. */
        private boolean goDeeper(Kind kind, int depth) {
            if (depth < MOST_DEPTH && accept(kind)) {
                return true;
            }
            fail();
            return false;
        }

        private long newName(long[] names, int count) {
            if (tokens.kind() != Kind.NAME) {
                fail();
                return 0;
            }
            long name = tokens.value();
            if (find(names, count, name) >= 0) {
                complain(ERROR_TWICE);
            } else if (count >= names.length) {
                complain(ERROR_TOO_MANY);
            }
            tokens.advance();
            return name;
        }

        private int oldName(long[] names, int count) {
            if (tokens.kind() != Kind.NAME) {
                fail();
                return NONE;
            }
            int found = find(names, count, tokens.value());
            if (found < 0) {
                complain(ERROR_UNKNOWN);
            }
            tokens.advance();
            return found;
        }

        private int otherPeak(int one) {
            boolean isName = tokens.kind() == Kind.NAME;
            if (isName && one >= 0 && find(peakNames, plan.peaks, tokens.value()) == one) {
                complain(ERROR_RANGE);
            }
            return oldName(peakNames, plan.peaks);
        }

        private static int find(long[] names, int count, long name) {
            for (int i = 0; i < count && i < names.length; i++) {
                if (names[i] == name) {
                    return i;
                }
            }
            return NONE;
        }

        private int number(int least, int most) {
            if (tokens.kind() != Kind.NUMBER) {
                fail();
                return 0;
            }
            int number = (int) tokens.value();
            if (number < least || number > most) {
                complain(ERROR_RANGE);
            }
            tokens.advance();
            return number;
        }

        private void emit(int op, int of) {
            plan.orders.append(op, of);
        }

        private boolean accept(Kind kind) {
            if (tokens.kind() != kind) {
                return false;
            }
            tokens.advance();
            return true;
        }

        private void expect(Kind kind) {
            if (!accept(kind)) {
                fail();
            }
        }

        /** Nothing is read behind an error of the grammar, and it goes ahead of all others. */
        private void fail() {
            if (fault != ERROR_GRAMMAR) {
                fault = ERROR_GRAMMAR;
                faultAt = tokens.start();
                tokens.giveUp();
            }
        }

        private void complain(int error) {
            if (fault == 0) {
                fault = error;
                faultAt = tokens.start();
            }
        }
    }

    /** What a list tells, and no minute changes. */
    private static final class Plan {
        int peaks;
        int passes;
        int clouds;
        int messages;
        final int[] from = new int[MOST_PEAKS];
        final int[] to = new int[MOST_PEAKS];
        final int[] mirrors = new int[MOST_PEAKS];
        final int[] onePeak = new int[MOST_PASSES];
        final int[] otherPeak = new int[MOST_PASSES];
        final int[] far = new int[MOST_PASSES];
        final int[] words = new int[MOST_MESSAGES];
        final int[] at = new int[MOST_MESSAGES];
        final int[] goal = new int[MOST_MESSAGES];
        final int[] due = new int[MOST_MESSAGES];
        final Orders orders = new Orders();
        private final int[] cloudPass = new int[MOST_CLOUDS];
        private final int[] cloudEvery = new int[MOST_CLOUDS];
        private final int[] cloudLasts = new int[MOST_CLOUDS];
        private final int[] cloudFrom = new int[MOST_CLOUDS];

        void clear() {
            peaks = 0;
            passes = 0;
            clouds = 0;
            messages = 0;
            orders.clear();
        }

        void addPeak(int sunFrom, int sunTo, int ownMirrors) {
            if (peaks < MOST_PEAKS) {
                from[peaks] = sunFrom;
                to[peaks] = sunTo;
                mirrors[peaks] = ownMirrors;
                peaks++;
            }
        }

        void addPass(int one, int other, int itsFar) {
            if (passes < MOST_PASSES && hasPeak(one) && hasPeak(other)) {
                onePeak[passes] = one;
                otherPeak[passes] = other;
                far[passes] = itsFar;
                passes++;
            }
        }

        void addCloud(int pass, int every, int lasts, int start) {
            if (clouds < MOST_CLOUDS && every > 0) {
                cloudPass[clouds] = pass;
                cloudEvery[clouds] = every;
                cloudLasts[clouds] = lasts;
                cloudFrom[clouds] = start;
                clouds++;
            }
        }

        void addMessage(int itsWords, int peak, int goalPeak, int itsDue) {
            if (messages < MOST_MESSAGES && hasPeak(peak) && hasPeak(goalPeak)) {
                words[messages] = itsWords;
                at[messages] = peak;
                goal[messages] = goalPeak;
                due[messages] = itsDue;
                messages++;
            }
        }

        boolean hasPeak(int peak) {
            return peak >= 0 && peak < peaks && peak < MOST_PEAKS;
        }

        boolean hasPass(int pass) {
            return pass >= 0 && pass < passes && pass < MOST_PASSES;
        }

        boolean hasMessage(int message) {
            return message >= 0 && message < messages && message < MOST_MESSAGES;
        }

        boolean isSunny(int peak, int minute) {
            if (!hasPeak(peak)) {
                return false;
            }
            int ofDay = minute % DAY;
            return ofDay >= from[peak] && ofDay < to[peak];
        }

        boolean isCloudy(int pass, int minute) {
            for (int cloud = 0; cloud < clouds && cloud < MOST_CLOUDS; cloud++) {
                int every = cloudEvery[cloud];
                if (cloudPass[cloud] == pass && every > 0
                        && (minute + cloudFrom[cloud]) % every < cloudLasts[cloud]) {
                    return true;
                }
            }
            return false;
        }

        int cloudsOver(int pass) {
            int number = 0;
            for (int cloud = 0; cloud < clouds && cloud < MOST_CLOUDS; cloud++) {
                if (cloudPass[cloud] == pass) {
                    number++;
                }
            }
            return number;
        }

        boolean isEnd(int pass, int peak) {
            return hasPass(pass) && (onePeak[pass] == peak || otherPeak[pass] == peak);
        }

        /** The peak over the pass from a peak that is an end of it. */
        int across(int pass, int peak) {
            if (!hasPass(pass)) {
                return peak;
            }
            return onePeak[pass] == peak ? otherPeak[pass] : onePeak[pass];
        }
    }

    /** The orders of hold; their tests stand one behind the other, operands ahead of what joins them. */
    private static final class Orders {
        static final int NUMBER = 0;
        static final int MINUTE = 1;
        static final int QUEUE = 2;
        static final int LEFT = 3;
        static final int BREAKS = 4;
        static final int OPEN = 5;
        static final int CARRIED = 6;
        static final int NEGATE = 7;
        static final int NOT = 8;
        static final int AND = 9;
        static final int OR = 10;
        static final int LESS = 11;
        static final int GREATER = 12;
        static final int EQUAL = 13;
        static final int AT_MOST = 14;
        static final int AT_LEAST = 15;
        static final int PLUS = 16;
        static final int MINUS = 17;
        static final int TIMES = 18;
        static final int DIVIDED = 19;
        static final int MIN = 20;
        static final int MAX = 21;

        int count;
        private final int[] messages = new int[MOST_HOLDS];
        private final int[] ends = new int[MOST_HOLDS];
        private final int[] ops = new int[MOST_TOKENS];
        private final int[] operands = new int[MOST_TOKENS];
        private int length;
        private final int[] stack = new int[MOST_TOKENS];
        private int top;

        void clear() {
            count = 0;
            length = 0;
        }

        void append(int op, int operand) {
            if (length < ops.length) {
                ops[length] = op;
                operands[length] = operand;
                length++;
            }
        }

        /** What was appended behind the last order is the test of this one. */
        void close(int message) {
            if (count < messages.length) {
                messages[count] = message;
                ends[count] = length;
                count++;
            }
        }

        boolean isHeld(int message, Chain chain) {
            int start = 0;
            for (int order = 0; order < count && order < messages.length; order++) {
                if (messages[order] == message && isTrue(start, ends[order], chain)) {
                    return true;
                }
                start = ends[order];
            }
            return false;
        }

        private boolean isTrue(int start, int end, Chain chain) {
            top = 0;
            for (int i = start; i >= 0 && i < end && i < ops.length; i++) {
                apply(ops[i], operands[i], chain);
            }
            return pop() != 0;
        }

        private void apply(int op, int operand, Chain chain) {
            switch (op) {
                case NUMBER:
                    push(operand);
                    break;
                case MINUTE:
                    push(chain.minute % DAY);
                    break;
                case QUEUE:
                    push(chain.messagesAt(operand, WAITS));
                    break;
                case LEFT:
                    push(chain.leftOf(operand));
                    break;
                case BREAKS:
                    push(chain.breaksOf(operand));
                    break;
                case OPEN:
                    push(chain.isLit(operand) ? 1 : 0);
                    break;
                case CARRIED:
                    push(chain.isCarried(operand) ? 1 : 0);
                    break;
                case NEGATE:
                    push(-pop());
                    break;
                case NOT:
                    push(1 - pop());
                    break;
                default:
                    int right = pop();
                    push(joined(op, pop(), right));
                    break;
            }
        }

        private static int joined(int op, int left, int right) {
            switch (op) {
                case AND:
                    return left & right;
                case OR:
                    return left | right;
                case LESS:
                    return left < right ? 1 : 0;
                case GREATER:
                    return left > right ? 1 : 0;
                case EQUAL:
                    return left == right ? 1 : 0;
                case AT_MOST:
                    return left <= right ? 1 : 0;
                case AT_LEAST:
                    return left >= right ? 1 : 0;
                case PLUS:
                    return left + right;
                case MINUS:
                    return left - right;
                case TIMES:
                    return left * right;
                case DIVIDED:
                    return right == 0 ? 0 : left / right;
                case MIN:
                    return left < right ? left : right;
                default:
                    return left > right ? left : right;
            }
        }

        private void push(int number) {
            if (top < stack.length) {
                stack[top] = number;
                top++;
            }
        }

        private int pop() {
            if (top <= 0 || top > stack.length) {
                return 0;
            }
            top--;
            return stack[top];
        }
    }

    /** A plan, and all that minutes and hands change. */
    private static final class Chain {
        Plan plan;
        int minute;
        /** The pass that is never open, or -1. */
        int shut = NONE;
        final int[] mirrors = new int[MOST_PEAKS];
        final int[] place = new int[MOST_MESSAGES];
        final int[] goal = new int[MOST_MESSAGES];
        final int[] state = new int[MOST_MESSAGES];
        final int[] left = new int[MOST_MESSAGES];
        final int[] came = new int[MOST_MESSAGES];
        private final int[] over = new int[MOST_MESSAGES];
        private final int[] breaks = new int[MOST_MESSAGES];
        private final int[] crossed = new int[MOST_MESSAGES];
        private final int[] flashedOver = new int[MOST_PASSES];
        private int lost;
        // Which passes are open in the minute that was looked at last.
        private final boolean[] lit = new boolean[MOST_PASSES];
        // The far from each peak to the goal that was measured last.
        private final int[] reach = new int[MOST_PEAKS];

        Chain(Plan first) {
            plan = first;
        }

        /** Puts a plan in the place of the old one; the minute stays. */
        void begin(Plan next) {
            plan = next;
            shut = NONE;
            lost = 0;
            for (int peak = 0; peak < MOST_PEAKS; peak++) {
                mirrors[peak] = next.mirrors[peak];
            }
            for (int pass = 0; pass < MOST_PASSES; pass++) {
                flashedOver[pass] = 0;
            }
            for (int message = 0; message < MOST_MESSAGES; message++) {
                place[message] = next.at[message];
                goal[message] = next.goal[message];
                came[message] = NONE;
                breaks[message] = 0;
                crossed[message] = 0;
                letWait(message);
            }
        }

        void copy(Chain other) {
            plan = other.plan;
            minute = other.minute;
            shut = other.shut;
            lost = other.lost;
            copyRow(other.mirrors, mirrors);
            copyRow(other.place, place);
            copyRow(other.goal, goal);
            copyRow(other.state, state);
            copyRow(other.left, left);
            copyRow(other.came, came);
            copyRow(other.over, over);
            copyRow(other.breaks, breaks);
            copyRow(other.crossed, crossed);
            copyRow(other.flashedOver, flashedOver);
        }

        private static void copyRow(int[] source, int[] target) {
            for (int i = 0; i < source.length && i < target.length; i++) {
                target[i] = source[i];
            }
        }

        void run(int minutes) {
            for (int i = 0; i < minutes; i++) {
                look();
                for (int message = 0; message < plan.messages; message++) {
                    flashWord(message);
                }
                for (int message = 0; message < plan.messages; message++) {
                    sendOff(message);
                }
                minute++;
            }
        }

        /** Looks which passes are open in the minute of now. */
        void look() {
            for (int pass = 0; pass < lit.length; pass++) {
                lit[pass] = isPassable(pass, minute);
            }
        }

        private void flashWord(int message) {
            if (!plan.hasMessage(message) || state[message] != FLASHED) {
                return;
            }
            int pass = over[message];
            if (!isLit(pass)) {
                breakOff(message);
                return;
            }
            flashedOver[pass]++;
            if (plan.far[pass] >= LOSING_FAR && (minute + left[message]) % LOSING_STEP == 0) {
                lost++;
            } else {
                left[message]--;
            }
            if (left[message] == 0) {
                arrive(message, plan.across(pass, place[message]));
            }
        }

        private void arrive(int message, int peak) {
            place[message] = peak;
            crossed[message]++;
            letWait(message);
            if (peak == goal[message]) {
                state[message] = THERE;
                left[message] = 0;
                came[message] = minute;
            }
        }

        void letWait(int message) {
            state[message] = WAITS;
            over[message] = NONE;
            left[message] = plan.words[message];
        }

        void breakOff(int message) {
            breaks[message]++;
            letWait(message);
        }

        private void sendOff(int message) {
            if (!plan.hasMessage(message) || state[message] != WAITS || plan.due[message] > minute
                    || freeMirrors(place[message]) <= 0 || plan.orders.isHeld(message, this)) {
                return;
            }
            int pass = firstPassOfWay(place[message], goal[message]);
            if (pass >= 0 && messageOver(pass) < 0) {
                state[message] = FLASHED;
                over[message] = pass;
                left[message] = plan.words[message];
            }
        }

        /** The far from a to b over passes that are lit, or -1. */
        int farOfWay(int a, int b) {
            measure(b);
            return plan.hasPeak(a) && reach[a] < NO_WAY ? reach[a] : NONE;
        }

        /** The first pass from a to b over passes that are lit, or -1. */
        int firstPassOfWay(int a, int b) {
            measure(b);
            if (a == b || !plan.hasPeak(a) || reach[a] >= NO_WAY) {
                return NONE;
            }
            for (int pass = 0; pass < plan.passes; pass++) {
                if (isLit(pass) && plan.isEnd(pass, a)) {
                    int next = plan.across(pass, a);
                    if (plan.hasPeak(next) && plan.far[pass] + reach[next] == reach[a]) {
                        return pass;
                    }
                }
            }
            return NONE;
        }

        private void measure(int target) {
            for (int peak = 0; peak < reach.length; peak++) {
                reach[peak] = peak == target ? 0 : NO_WAY;
            }
            boolean isShorter = true;
            for (int round = 0; round < MOST_PEAKS && isShorter; round++) {
                isShorter = false;
                for (int pass = 0; pass < plan.passes; pass++) {
                    if (isLit(pass)) {
                        boolean one = shorten(plan.onePeak[pass], plan.otherPeak[pass], plan.far[pass]);
                        boolean other = shorten(plan.otherPeak[pass], plan.onePeak[pass], plan.far[pass]);
                        isShorter = isShorter || one || other;
                    }
                }
            }
        }

        private boolean shorten(int peak, int next, int far) {
            if (!plan.hasPeak(peak) || !plan.hasPeak(next) || reach[next] + far >= reach[peak]) {
                return false;
            }
            reach[peak] = reach[next] + far;
            return true;
        }

        boolean isPassable(int pass, int at) {
            return plan.hasPass(pass) && pass != shut && plan.isSunny(plan.onePeak[pass], at)
                    && plan.isSunny(plan.otherPeak[pass], at) && !plan.isCloudy(pass, at);
        }

        boolean isLit(int pass) {
            return pass >= 0 && pass < lit.length && lit[pass];
        }

        boolean isCarried(int message) {
            return plan.hasMessage(message) && state[message] == FLASHED;
        }

        int leftOf(int message) {
            return plan.hasMessage(message) ? left[message] : 0;
        }

        int breaksOf(int message) {
            return plan.hasMessage(message) ? breaks[message] : 0;
        }

        int freeMirrors(int peak) {
            return plan.hasPeak(peak) ? mirrors[peak] - messagesAt(peak, FLASHED) : 0;
        }

        int messagesAt(int peak, int itsState) {
            int number = 0;
            for (int message = 0; message < plan.messages && message < MOST_MESSAGES; message++) {
                if (place[message] == peak && state[message] == itsState) {
                    number++;
                }
            }
            return number;
        }

        int messagesIn(int itsState) {
            int number = 0;
            for (int message = 0; message < plan.messages && message < MOST_MESSAGES; message++) {
                if (state[message] == itsState) {
                    number++;
                }
            }
            return number;
        }

        private int messageOver(int pass) {
            for (int message = 0; message < plan.messages && message < MOST_MESSAGES; message++) {
                if (over[message] == pass) {
                    return message;
                }
            }
            return NONE;
        }

        private int breaksInAll() {
            int number = 0;
            for (int message = 0; message < plan.messages && message < MOST_MESSAGES; message++) {
                number += breaks[message];
            }
            return number;
        }

        int sunnyPeaks() {
            int number = 0;
            for (int peak = 0; peak < plan.peaks; peak++) {
                if (plan.isSunny(peak, minute)) {
                    number++;
                }
            }
            return number;
        }

        int openPasses() {
            int number = 0;
            for (int pass = 0; pass < plan.passes; pass++) {
                if (isPassable(pass, minute)) {
                    number++;
                }
            }
            return number;
        }

        private int passesOf(int peak) {
            int number = 0;
            for (int pass = 0; pass < plan.passes; pass++) {
                if (plan.isEnd(pass, peak)) {
                    number++;
                }
            }
            return number;
        }

        private int openPassesOf(int peak) {
            int number = 0;
            for (int pass = 0; pass < plan.passes; pass++) {
                if (plan.isEnd(pass, peak) && isPassable(pass, minute)) {
                    number++;
                }
            }
            return number;
        }

        /** What is counted of the messages, by the numbers 8 to 12. */
        int tally(int what) {
            switch (what) {
                case FIRST_FORESEEN:
                    return messagesIn(WAITS);
                case 9:
                    return messagesIn(FLASHED);
                case 10:
                    return messagesIn(THERE);
                case 11:
                    return breaksInAll();
                default:
                    return lost;
            }
        }

        int peakTold(int peak, int what) {
            if (!plan.hasPeak(peak)) {
                return 0;
            }
            switch (what) {
                case 0:
                    return plan.from[peak];
                case 1:
                    return plan.to[peak];
                case 2:
                    return mirrors[peak];
                case 3:
                    return freeMirrors(peak);
                case 4:
                    return messagesAt(peak, WAITS);
                case 5:
                    return passesOf(peak);
                default:
                    return openPassesOf(peak);
            }
        }

        int passTold(int pass, int what) {
            if (!plan.hasPass(pass)) {
                return 0;
            }
            switch (what) {
                case 0:
                    return plan.onePeak[pass];
                case 1:
                    return plan.otherPeak[pass];
                case 2:
                    return plan.far[pass];
                case 3:
                    return plan.cloudsOver(pass);
                case 4:
                    return messageOver(pass);
                default:
                    return flashedOver[pass];
            }
        }

        int messageTold(int message, int what) {
            if (!plan.hasMessage(message)) {
                return 0;
            }
            switch (what) {
                case 0:
                    return plan.words[message];
                case 1:
                    return place[message];
                case 2:
                    return goal[message];
                case 3:
                    return state[message];
                case 4:
                    return over[message];
                case 5:
                    return left[message];
                case 6:
                    return breaks[message];
                case 7:
                    return came[message];
                default:
                    return crossed[message];
            }
        }
    }
}
