import java.util.ArrayList;
import java.util.Arrays;
import java.util.HashSet;
import java.util.List;
import java.util.Set;
import java.util.function.ToIntFunction;

/** The document once more, written with the Java library and as unlike the program as can be. */
final class Model {
    private static final Set<String> KEYWORDS = new HashSet<>(Arrays.asList(("peak sun from to mirrors pass between and far "
            + "cloud over every for message words at due hold when minute queue left breaks open carried not or min max")
            .split(" ")));

    /** A token: its text, "" at the end, null if it is none; and where it begins. */
    private record Token(String text, int at) {
        boolean isName() {
            return text != null && !text.isEmpty() && Character.isLetter(text.charAt(0)) && !KEYWORDS.contains(text);
        }

        boolean isNumber() {
            return text != null && !text.isEmpty() && Character.isDigit(text.charAt(0));
        }
    }

    /** The grammar is broken, or something else is wrong. */
    private static final class Fault extends RuntimeException {
        private static final long serialVersionUID = 1L;
        final int error;
        final int at;

        Fault(int error, int at) {
            super(null, null, false, false);
            this.error = error;
            this.at = at;
        }
    }

    private static final class Peak {
        String name;
        int from;
        int to;
        int mirrors;
    }

    private static final class Pass {
        String name;
        int one;
        int two;
        int far;
        int flashed;
    }

    private record Cloud(int pass, int every, int lasts, int from) {
    }

    private static final class Message {
        String name;
        int words;
        int at;
        int to;
        int due;
        int how;
        int pass = -1;
        int left;
        int breaks;
        int came = -1;
        int passes;
    }

    private record Hold(int message, ToIntFunction<Model> test) {
    }

    private final List<Byte> tape = new ArrayList<>();
    private int faultAt = -1;
    int minute;
    private int lost;
    private int never = -1;
    List<Peak> peaks = new ArrayList<>();
    List<Pass> passes = new ArrayList<>();
    private List<Cloud> clouds = new ArrayList<>();
    List<Message> messages = new ArrayList<>();
    private List<Hold> holds = new ArrayList<>();

    // ---- the language

    int feed(int... numbers) {
        if (tape.size() > 1980) {
            throw new IllegalStateException();
        }
        for (int number : numbers) {
            tape.add((byte) (number >> 24));
            tape.add((byte) (number >> 16));
            tape.add((byte) (number >> 8));
            tape.add((byte) number);
        }
        return tape.size();
    }

    int trim(int n) {
        if (n < 0 || n > tape.size()) {
            throw new IllegalArgumentException();
        }
        while (tape.size() > n) {
            tape.remove(tape.size() - 1);
        }
        return n;
    }

    int teach() {
        StringBuilder text = new StringBuilder();
        for (byte one : tape) {
            text.append((char) (one & 255));
        }
        tape.clear();
        try {
            List<Token> tokens = tokens(text.toString());
            new Grammar(tokens).list();
            Model next = new Model();
            next.learn(tokens);
            peaks = next.peaks;
            passes = next.passes;
            clouds = next.clouds;
            messages = next.messages;
            holds = next.holds;
            lost = 0;
            faultAt = -1;
            return 0;
        } catch (Fault fault) {
            faultAt = fault.at;
            return fault.error;
        }
    }

    int errorAt() {
        return faultAt;
    }

    private static List<Token> tokens(String text) {
        List<Token> tokens = new ArrayList<>();
        int at = 0;
        while (true) {
            while (at < text.length() && (text.charAt(at) == ' ' || text.charAt(at) == '\n')) {
                at++;
            }
            if (at == text.length()) {
                tokens.add(new Token("", at));
                return tokens;
            }
            String rest = text.substring(at);
            String token = null;
            String word = rest.replaceFirst("(?s)^([a-z][a-z0-9]*|[0-9]+|<=|>=|[-()\\[\\];,+*/<>=])?.*$", "$1");
            boolean isLetters = !word.isEmpty() && Character.isLetter(word.charAt(0));
            boolean isDigits = !word.isEmpty() && Character.isDigit(word.charAt(0));
            if (!word.isEmpty() && !(isLetters && word.length() > 10) && !(isDigits && word.length() > 6)
                    && tokens.size() < 400) {
                token = word;
            }
            tokens.add(new Token(token, at));
            if (token == null) {
                return tokens;
            }
            at += token.length();
        }
    }

    /** Looks at the grammar alone. */
    private static final class Grammar {
        private final List<Token> tokens;
        private int at;

        Grammar(List<Token> tokens) {
            this.tokens = tokens;
        }

        void list() {
            while (!is("")) {
                switch (is("peak") ? 0 : is("pass") ? 1 : is("cloud") ? 2 : is("message") ? 3 : is("hold") ? 4 : 5) {
                    case 0 -> line("peak ? sun from # to # mirrors #");
                    case 1 -> line("pass ? between ? and ? far #");
                    case 2 -> line("cloud over ? every # for # from #");
                    case 3 -> line("message ? words # at ? to ? due #");
                    case 4 -> {
                        line("hold ? when");
                        test(0);
                    }
                    default -> throw broken();
                }
                line(";");
            }
        }

        private Fault broken() {
            return new Fault(1, tokens.get(at).at);
        }

        private boolean is(String text) {
            return text.equals(tokens.get(at).text);
        }

        private void line(String parts) {
            for (String part : parts.split(" ")) {
                Token token = tokens.get(at);
                boolean fits = part.equals("?") ? token.isName() : part.equals("#") ? token.isNumber() : is(part);
                if (!fits) {
                    throw broken();
                }
                at++;
            }
        }

        private int deeper(String part, int depth) {
            if (depth == 8) {
                throw broken();
            }
            line(part);
            return depth + 1;
        }

        private void test(int depth) {
            do {
                if (is("or") || is("and")) {
                    throw broken();
                }
                single(depth);
            } while ((is("or") || is("and")) && at++ >= 0);
        }

        private void single(int depth) {
            if (is("not")) {
                single(deeper("not", depth));
            } else if (is("[")) {
                test(deeper("[", depth));
                line("]");
            } else if (is("open") || is("carried")) {
                at++;
                line("?");
            } else {
                sum(depth);
                if (!is("<") && !is(">") && !is("=") && !is("<=") && !is(">=")) {
                    throw broken();
                }
                at++;
                sum(depth);
            }
        }

        private void sum(int depth) {
            value(depth);
            while (is("+") || is("-") || is("*") || is("/")) {
                at++;
                value(depth);
            }
        }

        private void value(int depth) {
            if (is("minute") || tokens.get(at).isNumber()) {
                at++;
            } else if (is("queue") || is("left") || is("breaks")) {
                at++;
                line("?");
            } else if (is("-")) {
                value(deeper("-", depth));
            } else if (is("(")) {
                sum(deeper("(", depth));
                line(")");
            } else if (is("min") || is("max")) {
                at++;
                int inside = deeper("(", depth);
                sum(inside);
                line(",");
                sum(inside);
                line(")");
            } else {
                throw broken();
            }
        }
    }

    private List<Token> read;
    private int at;

    /** Looks at names and numbers of a list whose grammar is right. */
    private void learn(List<Token> tokens) {
        read = tokens;
        at = 0;
        while (!now().isEmpty()) {
            String line = next();
            switch (line) {
                case "peak" -> learnPeak();
                case "pass" -> learnPass();
                case "cloud" -> learnCloud();
                case "message" -> learnMessage();
                default -> {
                    wrongIf(holds.size() == 12, 4, at - 1);
                    int message = old(messageNames());
                    next();
                    holds.add(new Hold(message, test()));
                }
            }
            next();
        }
    }

    private void learnPeak() {
        Peak peak = new Peak();
        peak.name = fresh(peakNames(), 8);
        at += 2;
        peak.from = number(0, 120);
        next();
        peak.to = number(0, 120);
        next();
        peak.mirrors = number(0, 4);
        peaks.add(peak);
    }

    private void learnPass() {
        Pass pass = new Pass();
        pass.name = fresh(passNames(), 12);
        next();
        pass.one = old(peakNames());
        next();
        pass.two = old(peakNames());
        wrongIf(pass.one == pass.two, 5, at - 1);
        next();
        pass.far = number(1, 20);
        passes.add(pass);
    }

    private void learnCloud() {
        wrongIf(clouds.size() == 8, 4, at - 1);
        next();
        int pass = old(passNames());
        next();
        int every = number(2, 60);
        next();
        int lasts = number(1, 59);
        wrongIf(lasts >= every, 5, at - 1);
        next();
        clouds.add(new Cloud(pass, every, lasts, number(0, 59)));
    }

    private void learnMessage() {
        Message message = new Message();
        message.name = fresh(messageNames(), 8);
        next();
        message.words = number(1, 40);
        message.left = message.words;
        next();
        message.at = old(peakNames());
        next();
        message.to = old(peakNames());
        wrongIf(message.at == message.to, 5, at - 1);
        next();
        message.due = number(0, 999);
        messages.add(message);
    }

    private String now() {
        return read.get(at).text;
    }

    private String next() {
        return read.get(at++).text;
    }

    private void wrongIf(boolean isWrong, int error, int token) {
        if (isWrong) {
            throw new Fault(error, read.get(token).at);
        }
    }

    private int number(int least, int most) {
        int number = Integer.parseInt(next());
        wrongIf(number < least || number > most, 5, at - 1);
        return number;
    }

    private String fresh(List<String> names, int most) {
        String name = next();
        wrongIf(names.contains(name), 2, at - 1);
        wrongIf(names.size() == most, 4, at - 1);
        return name;
    }

    private int old(List<String> names) {
        int found = names.indexOf(next());
        wrongIf(found < 0, 3, at - 1);
        return found;
    }

    private List<String> peakNames() {
        List<String> names = new ArrayList<>();
        peaks.forEach(peak -> names.add(peak.name));
        return names;
    }

    private List<String> passNames() {
        List<String> names = new ArrayList<>();
        passes.forEach(pass -> names.add(pass.name));
        return names;
    }

    private List<String> messageNames() {
        List<String> names = new ArrayList<>();
        messages.forEach(message -> names.add(message.name));
        return names;
    }

    private ToIntFunction<Model> test() {
        ToIntFunction<Model> left = both();
        while (now().equals("or")) {
            next();
            ToIntFunction<Model> one = left;
            ToIntFunction<Model> two = both();
            left = model -> one.applyAsInt(model) + two.applyAsInt(model) > 0 ? 1 : 0;
        }
        return left;
    }

    private ToIntFunction<Model> both() {
        ToIntFunction<Model> left = single();
        while (now().equals("and")) {
            next();
            ToIntFunction<Model> one = left;
            ToIntFunction<Model> two = single();
            left = model -> one.applyAsInt(model) * two.applyAsInt(model);
        }
        return left;
    }

    private ToIntFunction<Model> single() {
        switch (now()) {
            case "not": {
                next();
                ToIntFunction<Model> turned = single();
                return model -> turned.applyAsInt(model) == 0 ? 1 : 0;
            }
            case "[": {
                next();
                ToIntFunction<Model> inside = test();
                next();
                return inside;
            }
            case "open": {
                next();
                int pass = old(passNames());
                return model -> model.open(pass, model.minute) ? 1 : 0;
            }
            case "carried": {
                next();
                int message = old(messageNames());
                return model -> model.messages.get(message).how == 1 ? 1 : 0;
            }
            default: {
                ToIntFunction<Model> one = sum();
                String sign = next();
                ToIntFunction<Model> two = sum();
                return model -> compared(sign, Integer.compare(one.applyAsInt(model), two.applyAsInt(model))) ? 1 : 0;
            }
        }
    }

    private static boolean compared(String sign, int order) {
        return order < 0 ? sign.startsWith("<") : order > 0 ? sign.startsWith(">") : sign.endsWith("=");
    }

    private ToIntFunction<Model> sum() {
        ToIntFunction<Model> left = product();
        while (now().equals("+") || now().equals("-")) {
            int sign = next().equals("+") ? 1 : -1;
            ToIntFunction<Model> one = left;
            ToIntFunction<Model> two = product();
            left = model -> (int) ((long) one.applyAsInt(model) + sign * (long) two.applyAsInt(model));
        }
        return left;
    }

    private ToIntFunction<Model> product() {
        ToIntFunction<Model> left = value();
        while (now().equals("*") || now().equals("/")) {
            boolean isTimes = next().equals("*");
            ToIntFunction<Model> one = left;
            ToIntFunction<Model> two = value();
            left = isTimes ? model -> (int) ((long) one.applyAsInt(model) * two.applyAsInt(model))
                    : model -> two.applyAsInt(model) == 0 ? 0
                    : (int) ((long) one.applyAsInt(model) / two.applyAsInt(model));
        }
        return left;
    }

    private ToIntFunction<Model> value() {
        String first = next();
        switch (first) {
            case "minute":
                return model -> model.minute % 120;
            case "queue": {
                int peak = old(peakNames());
                return model -> model.countMessages(message -> message.how == 0 && message.at == peak);
            }
            case "left": {
                int message = old(messageNames());
                return model -> model.messages.get(message).left;
            }
            case "breaks": {
                int message = old(messageNames());
                return model -> model.messages.get(message).breaks;
            }
            case "-": {
                ToIntFunction<Model> turned = value();
                return model -> (int) -(long) turned.applyAsInt(model);
            }
            case "(": {
                ToIntFunction<Model> inside = sum();
                next();
                return inside;
            }
            case "min":
            case "max": {
                next();
                ToIntFunction<Model> one = sum();
                next();
                ToIntFunction<Model> two = sum();
                next();
                boolean isMin = first.equals("min");
                return model -> isMin ? Math.min(one.applyAsInt(model), two.applyAsInt(model))
                        : Math.max(one.applyAsInt(model), two.applyAsInt(model));
            }
            default: {
                int number = Integer.parseInt(first);
                return model -> number;
            }
        }
    }

    // ---- the chain

    private interface IsOne {
        boolean of(Message message);
    }

    private int countMessages(IsOne isOne) {
        int count = 0;
        for (Message message : messages) {
            count += isOne.of(message) ? 1 : 0;
        }
        return count;
    }

    private boolean sunny(int peak, int when) {
        int day = when % 120;
        return peaks.get(peak).from <= day && day < peaks.get(peak).to;
    }

    private boolean open(int number, int when) {
        Pass pass = passes.get(number);
        boolean isOpen = number != never && sunny(pass.one, when) && sunny(pass.two, when);
        for (Cloud cloud : clouds) {
            isOpen &= cloud.pass != number || (when + cloud.from) % cloud.every >= cloud.lasts;
        }
        return isOpen;
    }

    /** Far and first pass of the best way, found by trying all of them; far -1 if there is none. */
    private int[] best(int from, int to, Set<Integer> seen) {
        if (from == to) {
            return new int[] {0, -1};
        }
        int[] best = {-1, -1};
        seen.add(from);
        for (int i = 0; i < passes.size(); i++) {
            Pass pass = passes.get(i);
            int other = pass.one == from ? pass.two : pass.two == from ? pass.one : -1;
            if (other >= 0 && !seen.contains(other) && open(i, minute)) {
                int rest = best(other, to, seen)[0];
                if (rest >= 0 && (best[0] < 0 || rest + pass.far < best[0])) {
                    best = new int[] {rest + pass.far, i};
                }
            }
        }
        seen.remove(from);
        return best;
    }

    private int free(int peak) {
        return peaks.get(peak).mirrors - countMessages(message -> message.how == 1 && message.at == peak);
    }

    private void minuteGoes() {
        for (Message message : messages) {
            if (message.how == 1) {
                flash(message);
            }
        }
        for (int i = 0; i < messages.size(); i++) {
            Message message = messages.get(i);
            int number = i;
            if (message.how != 0 || message.due > minute || free(message.at) < 1
                    || holds.stream().anyMatch(hold -> hold.message == number && hold.test.applyAsInt(this) != 0)) {
                continue;
            }
            int first = best(message.at, message.to, new HashSet<>())[1];
            if (first >= 0 && countMessages(other -> other.pass == first) == 0) {
                message.how = 1;
                message.pass = first;
            }
        }
        minute++;
    }

    private void flash(Message message) {
        if (!open(message.pass, minute)) {
            breakOff(message);
            return;
        }
        Pass pass = passes.get(message.pass);
        pass.flashed++;
        if (pass.far >= 7 && (minute + message.left) % 5 == 0) {
            lost++;
        } else if (--message.left == 0) {
            message.at = pass.one == message.at ? pass.two : pass.one;
            message.pass = -1;
            message.passes++;
            boolean isThere = message.at == message.to;
            message.how = isThere ? 2 : 0;
            message.left = isThere ? 0 : message.words;
            message.came = isThere ? minute : -1;
        }
    }

    private static void breakOff(Message message) {
        message.how = 0;
        message.pass = -1;
        message.left = message.words;
        message.breaks++;
    }

    private Model copy() {
        Model copy = new Model();
        copy.minute = minute;
        copy.lost = lost;
        copy.never = never;
        copy.clouds = clouds;
        copy.holds = holds;
        for (Peak peak : peaks) {
            Peak other = new Peak();
            other.from = peak.from;
            other.to = peak.to;
            other.mirrors = peak.mirrors;
            copy.peaks.add(other);
        }
        for (Pass pass : passes) {
            Pass other = new Pass();
            other.one = pass.one;
            other.two = pass.two;
            other.far = pass.far;
            other.flashed = pass.flashed;
            copy.passes.add(other);
        }
        for (Message message : messages) {
            Message other = new Message();
            other.words = message.words;
            other.at = message.at;
            other.to = message.to;
            other.due = message.due;
            other.how = message.how;
            other.pass = message.pass;
            other.left = message.left;
            other.breaks = message.breaks;
            other.came = message.came;
            other.passes = message.passes;
            copy.messages.add(other);
        }
        return copy;
    }

    // ---- what is told

    private static void index(boolean isRight) {
        if (!isRight) {
            throw new IndexOutOfBoundsException();
        }
    }

    private static void argument(boolean isRight) {
        if (!isRight) {
            throw new IllegalArgumentException();
        }
    }

    private static void state(boolean isRight) {
        if (!isRight) {
            throw new IllegalStateException();
        }
    }

    private static boolean in(int number, List<?> list) {
        return number >= 0 && number < list.size();
    }

    int count(int what) {
        index(what >= 0 && what <= 13);
        int sun = 0;
        for (int i = 0; i < peaks.size(); i++) {
            sun += sunny(i, minute) ? 1 : 0;
        }
        int isOpen = 0;
        for (int i = 0; i < passes.size(); i++) {
            isOpen += open(i, minute) ? 1 : 0;
        }
        int breaks = messages.stream().mapToInt(message -> message.breaks).sum();
        return new int[] {minute, peaks.size(), passes.size(), clouds.size(), messages.size(), holds.size(), sun, isOpen,
            countMessages(message -> message.how == 0), countMessages(message -> message.how == 1),
            countMessages(message -> message.how == 2), breaks, lost, tape.size()}[what];
    }

    int peak(int number, int what) {
        index(in(number, peaks) && what >= 0 && what <= 6);
        Peak peak = peaks.get(number);
        int all = 0;
        int isOpen = 0;
        for (int i = 0; i < passes.size(); i++) {
            boolean isOne = passes.get(i).one == number || passes.get(i).two == number;
            all += isOne ? 1 : 0;
            isOpen += isOne && open(i, minute) ? 1 : 0;
        }
        return new int[] {peak.from, peak.to, peak.mirrors, free(number),
            countMessages(message -> message.how == 0 && message.at == number), all, isOpen}[what];
    }

    int pass(int number, int what) {
        index(in(number, passes) && what >= 0 && what <= 5);
        Pass pass = passes.get(number);
        int over = -1;
        for (int i = 0; i < messages.size(); i++) {
            over = messages.get(i).pass == number ? i : over;
        }
        int above = (int) clouds.stream().filter(cloud -> cloud.pass == number).count();
        return new int[] {pass.one, pass.two, pass.far, above, over, pass.flashed}[what];
    }

    int message(int number, int what) {
        index(in(number, messages) && what >= 0 && what <= 8);
        Message message = messages.get(number);
        return new int[] {message.words, message.at, message.to, message.how, message.pass, message.left, message.breaks,
            message.came, message.passes}[what];
    }

    boolean hasSun(int peak, int when) {
        index(in(peak, peaks));
        argument(when >= 0 && when <= 9999);
        return sunny(peak, when);
    }

    boolean isOpen(int pass, int when) {
        index(in(pass, passes));
        argument(when >= 0 && when <= 9999);
        return open(pass, when);
    }

    int way(int a, int b) {
        index(in(a, peaks) && in(b, peaks));
        return best(a, b, new HashSet<>())[0];
    }

    int first(int a, int b) {
        index(in(a, peaks) && in(b, peaks));
        return best(a, b, new HashSet<>())[1];
    }

    int mirror(int number, boolean isMore) {
        index(in(number, peaks));
        Peak peak = peaks.get(number);
        state(isMore ? peak.mirrors != 4 : peak.mirrors != 0 && free(number) != 0);
        peak.mirrors += isMore ? 1 : -1;
        return peak.mirrors;
    }

    int stop(int number) {
        index(in(number, messages));
        Message message = messages.get(number);
        state(message.how == 1);
        int left = message.left;
        breakOff(message);
        return left;
    }

    int forward(int number, int peak) {
        index(in(number, messages) && in(peak, peaks));
        Message message = messages.get(number);
        argument(message.at != peak);
        state(message.how == 2);
        message.to = peak;
        message.how = 0;
        message.left = message.words;
        message.came = -1;
        return message.at;
    }

    int go(int minutes) {
        argument(minutes >= 1 && minutes <= 240);
        int before = count(10);
        for (int i = 0; i < minutes; i++) {
            minuteGoes();
        }
        return count(10) - before;
    }

    int until(int number) {
        index(in(number, messages));
        Model copy = copy();
        for (int i = 0; i <= 360; i++) {
            if (copy.messages.get(number).how == 2) {
                return i;
            }
            copy.minuteGoes();
        }
        return -1;
    }

    int opens(int pass) {
        index(in(pass, passes));
        for (int i = 0; i <= 240; i++) {
            if (open(pass, minute + i)) {
                return i;
            }
        }
        return -1;
    }

    int foresee(int minutes, int what) {
        argument(minutes >= 1 && minutes <= 240);
        index(what >= 8 && what <= 12);
        Model copy = copy();
        copy.go(minutes);
        return copy.count(what);
    }

    int missed(int minutes) {
        argument(minutes >= 1 && minutes <= 240);
        int best = -1;
        int fewest = Integer.MAX_VALUE;
        for (int i = passes.size() - 1; i >= 0; i--) {
            Model copy = copy();
            copy.never = i;
            copy.go(minutes);
            if (copy.count(10) <= fewest) {
                fewest = copy.count(10);
                best = i;
            }
        }
        return best;
    }

    int advise(int minutes) {
        argument(minutes >= 1 && minutes <= 240);
        int best = -1;
        Model plain = copy();
        plain.go(minutes);
        int most = plain.count(10) + 1;
        for (int i = peaks.size() - 1; i >= 0; i--) {
            Model copy = copy();
            copy.peaks.get(i).mirrors++;
            copy.go(minutes);
            if (copy.count(10) >= most) {
                most = copy.count(10);
                best = i;
            }
        }
        return best;
    }

    double mean() {
        return messages.stream().mapToInt(message -> message.left).average().orElse(0);
    }

    long digest() {
        List<Integer> numbers = new ArrayList<>();
        for (int what = 0; what <= 13; what++) {
            numbers.add(count(what));
        }
        for (int i = 0; i < peaks.size() * 7; i++) {
            numbers.add(peak(i / 7, i % 7));
        }
        for (int i = 0; i < passes.size() * 7; i++) {
            numbers.add(i % 7 < 6 ? pass(i / 7, i % 7) : open(i / 7, minute) ? 1 : 0);
        }
        for (int i = 0; i < messages.size() * 9; i++) {
            numbers.add(message(i / 9, i % 9));
        }
        return numbers.stream().mapToLong(Integer::longValue).reduce(863, (d, x) -> d * 31 + x);
    }
}
