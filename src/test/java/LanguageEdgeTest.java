import java.util.ArrayList;
import java.util.Arrays;
import java.util.List;

/** The edges that the document names in its first part: tape, tokens, grammar, depth and errors. */
public final class LanguageEdgeTest {
    private static final String TWO = "peak a sun from 0 to 120 mirrors 1;peak b sun from 0 to 120 mirrors 1;";
    private static final String FULL = TWO + "pass p between a and b far 3;message m words 5 at a to b due 0;";
    private static final String HOLD = FULL + "hold m when ";
    private static final String SYMBOLS = "()[];,+-*/<>=";
    private static final String[] KEYWORDS = {"peak", "sun", "from", "to", "mirrors", "pass", "between", "and", "far",
        "cloud", "over", "every", "for", "message", "words", "at", "due", "hold", "when", "minute", "queue", "left",
        "breaks", "open", "carried", "not", "or", "min", "max"};

    public static void main(String[] args) {
        tapeAndTokens();
        grammarAndDepth();
        errorOne();
        otherErrors();
        ranges();
        Check.end();
    }

    private static void tapeAndTokens() {
        Check.sentence("The tape is a row of at most 2000 bytes", LanguageEdgeTest::longestTape);
        Check.sentence("The tape is .. at first empty", LanguageEdgeTest::emptyAtFirst);
        Check.sentence("it is empty behind it", LanguageEdgeTest::emptyBehindTeach);
        Check.sentence("Blanks (32) and line ends (10) can stand between tokens", LanguageEdgeTest::blanksBetween);
        Check.sentence("at the beginning and at the end", LanguageEdgeTest::blanksAtTheEnds);
        Check.sentence("have to stand between two tokens that would otherwise be read as one", LanguageEdgeTest::readAsOne);
        Check.sentence("The longest possible token is always read", LanguageEdgeTest::longestToken);
        Check.sentence("A word: a letter a to z", LanguageEdgeTest::firstByteOfAWord);
        Check.sentence("followed by letters a to z and digits", LanguageEdgeTest::nextByteOfAWord);
        Check.sentence("A word: .. at most 10 bytes", LanguageEdgeTest::longestWord);
        Check.sentence("A word: .. letters a to z and digits, at most 10 bytes", LanguageEdgeTest::wordsOfTwoBytes);
        Check.sentence("A number: 1 to 6 digits", LanguageEdgeTest::longestNumber);
        Check.sentence("All other words are names", LanguageEdgeTest::keywordsAreNoNames);
    }

    private static void grammarAndDepth() {
        Check.sentence("{ x } x any number of times, also none", LanguageEdgeTest::anyNumberOfTimes);
        Check.sentence("Depth .. is 0 at the beginning", LanguageEdgeTest::depthAtTheBeginning);
        Check.sentence("1 greater between a ( and its )", LanguageEdgeTest::depthOfRound);
        Check.sentence("a [ and its ]", LanguageEdgeTest::depthOfSquare);
        Check.sentence("behind a - in front (of a value) for what it turns", LanguageEdgeTest::depthOfMinus);
        Check.sentence("behind a not for what it turns", LanguageEdgeTest::depthOfNot);
        Check.sentence("It may be at most 8", LanguageEdgeTest::depthOfAllSorts);
    }

    private static void errorOne() {
        Check.sentence("the first token with which the tokens so far are not the beginning of a list",
                LanguageEdgeTest::firstWrongToken);
        Check.sentence("a byte with which no token begins", LanguageEdgeTest::bytesOfNoToken);
        Check.sentence("a word or number that is too long", LanguageEdgeTest::tooLong);
        Check.sentence("the end of the tape (at its length)", LanguageEdgeTest::endOfTheTape);
        Check.sentence("the (, [, - or not behind which the depth would be 9", LanguageEdgeTest::whereTheDepthIsNine);
        Check.sentence("the token that would be the 401st", LanguageEdgeTest::token401);
        Check.sentence("(the end of the tape not counted)", LanguageEdgeTest::endBehindToken400);
        Check.sentence("The position is that of its first byte", LanguageEdgeTest::firstByte);
    }

    private static void otherErrors() {
        Check.sentence("Only if there is no error 1", LanguageEdgeTest::errorOneAheadOfAll);
        Check.sentence("from left to right, and the first error is told", LanguageEdgeTest::fromLeftToRight);
        Check.sentence("of errors at one token the one with the smallest number", LanguageEdgeTest::smallestNumber);
        Check.sentence("Error 2: .. that of one of the same sort told ahead", LanguageEdgeTest::toldTwice);
        Check.sentence("Error 3: another name is none of what it has to be, told ahead", LanguageEdgeTest::toldAhead);
        Check.sentence("behind between and and (of a pass), at, to (of a message) and queue, of a peak",
                LanguageEdgeTest::namesOfPeaks);
        Check.sentence("behind over and open, of a pass", LanguageEdgeTest::namesOfPasses);
        Check.sentence("behind hold, left, breaks and carried, of a message", LanguageEdgeTest::namesOfMessages);
        Check.sentence("Error 4: the name of the 9th peak", LanguageEdgeTest::ninthPeak);
        Check.sentence("of the 13th pass", LanguageEdgeTest::thirteenthPass);
        Check.sentence("or of the 9th message", LanguageEdgeTest::ninthMessage);
        Check.sentence("the cloud of the 9th cloud", LanguageEdgeTest::ninthCloud);
        Check.sentence("or the hold of the 13th hold", LanguageEdgeTest::thirteenthHold);
        Check.sentence("Peaks, passes, messages and holds are numbered from 0 in the order in which they are told",
                LanguageEdgeTest::numberedFromZero);
    }

    private static void ranges() {
        Check.sentence("from and to of a peak 0 to 120", LanguageEdgeTest::rangeOfSun);
        Check.sentence("mirrors 0 to 4", LanguageEdgeTest::rangeOfMirrors);
        Check.sentence("far 1 to 20", LanguageEdgeTest::rangeOfFar);
        Check.sentence("every 2 to 60", LanguageEdgeTest::rangeOfEvery);
        Check.sentence("for 1 to 59", LanguageEdgeTest::rangeOfFor);
        Check.sentence("from of a cloud 0 to 59", LanguageEdgeTest::rangeOfFrom);
        Check.sentence("words 1 to 40", LanguageEdgeTest::rangeOfWords);
        Check.sentence("due 0 to 999", LanguageEdgeTest::rangeOfDue);
        Check.sentence("for of a cloud is not less than its every (at that number)", LanguageEdgeTest::forAndEvery);
        Check.sentence("the second peak of a pass .. is the first one of it (at its name)", LanguageEdgeTest::secondPeak);
        Check.sentence("the to of a message, is the first one of it (at its name)", LanguageEdgeTest::toOfAMessage);
        Check.sentence("Error 5: a number is out of its range: from and to of a peak .. words .. due", LanguageEdgeTest::numbersOfTests);
    }

    // ---- tape and tokens

    /** A good list of so many bytes, the last of which is its last semicolon. */
    private static String listOf(int bytes) {
        String list = "peak a sun from 0 to 120 mirrors 1";
        return list + " ".repeat(bytes - list.length() - 1) + ";";
    }

    private static void longestTape() {
        for (int length = 1979; length <= 2000; length++) {
            Heliographs x = new Heliographs();
            Check.feed(x, " ".repeat(1960));
            Check.feed(x, " ".repeat(20));
            if (length == 1980) {
                Check.due("feed() behind 1980", 2000, x.feed(1, 2, 3, 4, 5));
            } else if (length > 1980) {
                x.feed(1, 2, 3, 4, 5);
                x.trim(length);
                Check.refuses(x, "feed() behind " + length, Check.STATE, () -> x.feed(1, 2, 3, 4, 5));
                Check.due("bytes behind it", length, x.count(13));
            } else {
                x.trim(length);
                Check.due("feed() behind 1979", 1999, x.feed(1, 2, 3, 4, 5));
            }
        }
        for (int length = 1998; length <= 2000; length++) {
            Heliographs x = Check.taught(listOf(length));
            Check.due("peaks of a list of " + length, 1, x.count(1));
        }
        Check.error(listOf(1999) + "?", 1, 1999);
        Check.error(" ".repeat(2000 - 34) + listOf(35).substring(0, 34), 1, 2000);
    }

    private static void emptyAtFirst() {
        Heliographs x = new Heliographs();
        Check.due("bytes", 0, x.count(13));
        Check.refuses(x, "trim(1)", Check.ARGUMENT, () -> x.trim(1));
        Check.due("trim(0)", 0, x.trim(0));
        Check.due("teach()", 0, x.teach());
        Check.due("feed()", 20, x.feed(0, 0, 0, 0, 0));
    }

    private static void emptyBehindTeach() {
        Heliographs x = Check.taught(TWO);
        Check.due("bytes behind a list", 0, x.count(13));
        Check.refuses(x, "trim(1) behind a list", Check.ARGUMENT, () -> x.trim(1));
        Check.due("teach() with an error", 1, Check.teach(x, TWO + "?"));
        Check.due("bytes behind an error", 0, x.count(13));
        Check.refuses(x, "trim(1) behind an error", Check.ARGUMENT, () -> x.trim(1));
        Check.due("peaks behind an error", 2, x.count(1));
        Check.due("feed()", 20, x.feed(0x20202020, 0x20202020, 0x20202020, 0x20202020, 0x20202020));
        Check.due("teach() of blanks", 0, x.teach());
        Check.due("peaks behind blanks", 0, x.count(1));
        Check.due("teach() of a list", 0, Check.teach(x, TWO));
        Check.due("teach() of an empty tape", 0, x.teach());
        Check.due("peaks behind an empty tape", 0, x.count(1));
    }

    private static boolean isBlank(int sign) {
        return sign == 32 || sign == 10;
    }

    private static boolean isLetter(int sign) {
        return sign >= 'a' && sign <= 'z';
    }

    private static boolean isDigit(int sign) {
        return sign >= '0' && sign <= '9';
    }

    private static void blanksBetween() {
        for (int sign = 0; sign < 256; sign++) {
            String text = "peak a sun from 0 to 0 mirrors 0" + (char) sign + ";";
            if (isBlank(sign)) {
                Check.taught(text);
                Check.taught(text.replace(' ', (char) sign));
                Check.taught(text.replace(" ", " \n" + (char) sign + (char) sign));
            } else if (sign != ';' && !isLetter(sign) && !isDigit(sign)) {
                Check.error(text, 1, 32);
            }
        }
    }

    private static void blanksAtTheEnds() {
        String list = "peak a sun from 0 to 0 mirrors 0;";
        for (int sign = 0; sign < 256; sign++) {
            if (isBlank(sign)) {
                Check.taught((char) sign + list);
                Check.taught(list + (char) sign);
                Check.taught((char) sign + "" + (char) sign + list + (char) sign + (char) sign);
                Check.taught("" + (char) sign);
            } else {
                Check.error((char) sign + list, 1, 0);
                Check.error(list + (char) sign, 1, 33);
            }
        }
    }

    private static void readAsOne() {
        Check.errorAtMark(1, "#peaka sun from 0 to 0 mirrors 0;");
        Check.errorAtMark(1, "peak asun #from 0 to 0 mirrors 0;");
        Check.errorAtMark(1, "peak a #sunfrom 0 to 0 mirrors 0;");
        Check.errorAtMark(1, "peak a sun #from0 to 0 mirrors 0;");
        Check.errorAtMark(1, "peak a sun from 0 #to0 mirrors 0;");
        Check.errorAtMark(1, "peak a sun from 0 to 0 #mirrors0;");
        Check.taught("peak a sun from 0to 0mirrors 0;");
        Check.taught("peak a\nsun from 0 to\n0 mirrors\n0;peak b sun from 0 to 0 mirrors 0;");
        Check.errorAtMark(1, HOLD + "#not1<2;");
        Check.taught(HOLD + "not(1)<2or[1<2]and(1)<2;");
        Check.taught(HOLD + "1<2or 1<2and minute<5;");
        Check.errorAtMark(1, HOLD + "1<2#or1<2;");
        Check.errorAtMark(1, HOLD + "#minute1<2;");
        Check.taught(HOLD + "minute<1;");
    }

    private static void longestToken() {
        Check.taught(HOLD + "1<=2;hold m when 1>=2;hold m when 1 <= 2;");
        Check.errorAtMark(1, HOLD + "1< #=2;");
        Check.errorAtMark(1, HOLD + "1> #=2;");
        Check.errorAtMark(1, HOLD + "1=#<2;");
        Check.errorAtMark(1, HOLD + "1=#>2;");
        Check.errorAtMark(1, HOLD + "1<#>2;");
        Check.errorAtMark(1, HOLD + "1<#<2;");
        Check.errorAtMark(1, HOLD + "1<=#=2;");
        Check.taught(HOLD + "1<-2;hold m when 1=-2;hold m when 1>-2;hold m when 1<=-2;");
        // "minutes" is no minute, and "min" none with "ute" behind it.
        Check.errorAtMark(1, HOLD + "#minutes<2;");
        Check.errorAtMark(1, HOLD + "min #ute<2;");
        // What 1 < = 2 would not say: <= holds with equal sides, < does not.
        Check.due("2<=2", true, Check.isHeld("2<=2", 0));
        Check.due("2<2", false, Check.isHeld("2<2", 0));
        Check.due("1<-2", false, Check.isHeld("1<-2", 0));
    }

    private static void firstByteOfAWord() {
        for (int sign = 0; sign < 256; sign++) {
            String text = "peak " + (char) sign + " sun from 0 to 0 mirrors 0;";
            if (isLetter(sign)) {
                Check.taught(text);
            } else {
                Check.error(text, 1, isBlank(sign) ? 7 : 5);
            }
        }
        // One ahead of a and one behind z, and digits.
        Check.errorAtMark(1, "peak #`a sun from 0 to 0 mirrors 0;");
        Check.errorAtMark(1, "peak #{a sun from 0 to 0 mirrors 0;");
        Check.errorAtMark(1, "peak #Aa sun from 0 to 0 mirrors 0;");
        Check.errorAtMark(1, "peak #0a sun from 0 to 0 mirrors 0;");
    }

    private static void nextByteOfAWord() {
        for (int sign = 0; sign < 256; sign++) {
            String text = "peak xy" + (char) sign + " sun from 0 to 0 mirrors 0;";
            if (isLetter(sign) || isDigit(sign) || isBlank(sign)) {
                Check.taught(text);
            } else {
                Check.error(text, 1, 7);
            }
        }
        // Each of them tells names apart: xa is not x, xb not xa, x0 not xz.
        String signs = "abcdefghijklmnopqrstuvwxyz0123456789";
        for (char one : signs.toCharArray()) {
            Check.taught("peak x sun from 0 to 0 mirrors 0;peak x" + one + " sun from 0 to 0 mirrors 0;");
            for (char other : signs.toCharArray()) {
                String two = "peak x" + one + " sun from 0 to 0 mirrors 0;peak x" + other + " sun from 0 to 0 mirrors 0;";
                Check.due("x" + one + " and x" + other, one == other ? 2 : 0, Check.teach(new Heliographs(), two));
            }
        }
    }

    private static void longestWord() {
        for (String name : new String[] {"a", "abcdefghi", "a12345678", "abcdefghij", "a123456789", "zzzzzzzzzz"}) {
            String list = "peak " + name + " sun from 0 to 120 mirrors 1;peak b sun from 0 to 120 mirrors 1;"
                    + "pass " + name + " between " + name + " and b far 1;message " + name + " words 1 at b to " + name
                    + " due 0;hold " + name + " when open " + name + " or carried " + name + ";";
            Check.taught(list);
        }
        for (String name : new String[] {"abcdefghijk", "a1234567890", "zzzzzzzzzzz", "a".repeat(40)}) {
            Check.errorAtMark(1, "peak #" + name + " sun from 0 to 0 mirrors 0;");
            Check.errorAtMark(1, TWO + "pass #" + name + " between a and b far 1;");
            Check.errorAtMark(1, HOLD + "queue #" + name + "<1;");
            Check.errorAtMark(1, "#" + name);
        }
        // All ten bytes tell names apart.
        Check.errorAtMark(2, "peak abcdefghij sun from 0 to 0 mirrors 0;peak #abcdefghij sun from 0 to 0 mirrors 0;");
        Check.taught("peak abcdefghij sun from 0 to 0 mirrors 0;peak abcdefghik sun from 0 to 0 mirrors 0;"
                + "peak bbcdefghij sun from 0 to 0 mirrors 0;peak abcdefghi sun from 0 to 0 mirrors 0;");
    }

    /** No two of all names of one byte and of two bytes are the same name. */
    private static void wordsOfTwoBytes() {
        String[] lines = linesOfShortNames();
        Check.due("names of one byte or two", 26 + 26 * 36 - 3, lines.length);
        for (int i = 0; i < lines.length; i += 4) {
            for (int j = i; j < lines.length; j += 4) {
                StringBuilder list = new StringBuilder();
                for (int k = 0; k < 4; k++) {
                    list.append(i + k < lines.length ? lines[i + k] : "");
                    list.append(j > i && j + k < lines.length ? lines[j + k] : "");
                }
                Check.due(list.toString(), 0, Check.teach(new Heliographs(), list.toString()));
            }
        }
    }

    private static String[] linesOfShortNames() {
        List<String> lines = new ArrayList<>();
        for (char one = 'a'; one <= 'z'; one++) {
            lines.add("peak " + one + " sun from 0 to 0 mirrors 0;");
            for (char other : "abcdefghijklmnopqrstuvwxyz0123456789".toCharArray()) {
                String name = "" + one + other;
                if (!Arrays.asList(KEYWORDS).contains(name)) {
                    lines.add("peak " + name + " sun from 0 to 0 mirrors 0;");
                }
            }
        }
        return lines.toArray(new String[0]);
    }

    private static void longestNumber() {
        Check.errorAtMark(1, "peak a sun from #to 0 mirrors 0;");
        Check.taught("peak a sun from 1 to 2 mirrors 0;");
        for (String number : new String[] {"12", "012", "0012", "00012", "000012"}) {
            Check.due(number, 12, Check.taught("peak a sun from " + number + " to 0 mirrors 0;").peak(0, 0));
        }
        Check.errorAtMark(1, "peak a sun from #0000012 to 0 mirrors 0;");
        Check.errorAtMark(1, "peak a sun from #" + "0".repeat(30) + " to 0 mirrors 0;");
        Check.due("99999", true, Check.isHeld("99999=100*1000-1", 0));
        Check.due("999999", true, Check.isHeld("999999=1000*1000-1", 0));
        Check.errorAtMark(1, HOLD + "#1000000<2;");
        Check.errorAtMark(1, HOLD + "2<#4294967296;");
        Check.errorAtMark(5, "peak a sun from #999999 to 0 mirrors 0;");
    }

    private static void keywordsAreNoNames() {
        for (String keyword : KEYWORDS) {
            Check.errorAtMark(1, "peak #" + keyword + " sun from 0 to 0 mirrors 0;");
            Check.errorAtMark(1, HOLD + "carried #" + keyword + ";");
            String more = keyword + "1";
            String less = keyword.substring(0, keyword.length() - 1);
            for (String name : new String[] {more, keyword + "s", less}) {
                Check.due(name, 1, Check.taught("peak " + name + " sun from 0 to 0 mirrors 0;").count(1));
            }
        }
    }

    // ---- grammar and depth

    private static void anyNumberOfTimes() {
        Check.due("peaks of no line", 0, Check.taught("").count(1));
        Check.due("peaks of one line", 1, Check.taught(TWO.substring(0, TWO.length() / 2)).count(1));
        Check.due("peaks of two lines", 2, Check.taught(TWO).count(1));
        for (int count : new int[] {0, 1, 2, 20, 80}) {
            Check.due(count + " or", false, Check.isHeld("2<1" + " or 2<1".repeat(count), 0));
            Check.due(count + " or, the last", true, Check.isHeld("2<1" + " or 2<1".repeat(count) + " or 1<2", 0));
            Check.due(count + " and", true, Check.isHeld("1<2" + " and 1<2".repeat(count), 0));
            Check.due(count + " and, the last", false,
                    Check.isHeld("1<2" + " and 1<2".repeat(count) + " and 2<1", 0));
            Check.due(count + " +", true, Check.isHeld("7" + "+1".repeat(count) + "=" + (7 + count), 0));
            Check.due(count + " -", true, Check.isHeld("99" + "-1".repeat(count) + "=" + (99 - count), 0));
            Check.due(count + " *", true, Check.isHeld("3" + "*-1".repeat(count / 2) + "=" + (count / 2 % 2 == 0 ? "3" : "-3"), 0));
            Check.due(count + " /", true, Check.isHeld("9" + "/1".repeat(count) + "=9", 0));
        }
    }

    private static void depthAtTheBeginning() {
        // Of each hold and of each side anew.
        String eight = "[".repeat(8) + "1<2" + "]".repeat(8);
        Check.taught(HOLD + eight + ";hold m when " + eight + ";");
        Check.taught(HOLD + eight + " and " + eight + " or " + eight + ";");
        String round = "(".repeat(8) + "1" + ")".repeat(8);
        Check.taught(HOLD + round + "<" + round + ";");
        Check.taught(HOLD + round + "+" + round + "*" + round + "<1;");
    }

    private static void depthOfRound() {
        for (int depth = 1; depth <= 8; depth++) {
            Check.taught(HOLD + "(".repeat(depth) + "1" + ")".repeat(depth) + "<2;");
            Check.taught(HOLD + "2>" + "(".repeat(depth) + "1" + ")".repeat(depth) + ";");
            Check.taught(HOLD + "min(1,".repeat(depth) + "1" + ")".repeat(depth) + "<2;");
            Check.taught(HOLD + "max(".repeat(depth) + "1" + ",2)".repeat(depth) + "<2;");
        }
        Check.errorAtMark(1, HOLD + "(".repeat(8) + "#(1" + ")".repeat(9) + "<2;");
        Check.errorAtMark(1, HOLD + "2>" + "(".repeat(8) + "#(1" + ")".repeat(9) + ";");
        Check.errorAtMark(1, HOLD + "min(1,".repeat(8) + "min#(1,1" + ")".repeat(9) + "<2;");
        Check.errorAtMark(1, HOLD + "max(".repeat(8) + "max#(1" + ",2)".repeat(9) + "<2;");
        // Behind its ) the depth is less again, and in both halves of min and max it is the same.
        Check.taught(HOLD + "(" + "(".repeat(7) + "1" + ")".repeat(7) + "+" + "(".repeat(7) + "1" + ")".repeat(7) + ")<2;");
        Check.errorAtMark(1, HOLD + "(" + "(".repeat(7) + "1" + ")".repeat(7) + "+" + "(".repeat(7) + "#(1" + ")".repeat(8)
                + ")<2;");
        String seven = "(".repeat(7) + "1" + ")".repeat(7);
        Check.taught(HOLD + "min(" + seven + "," + seven + ")<max(" + seven + "," + seven + ");");
        Check.errorAtMark(1, HOLD + "min(" + seven + "," + "(".repeat(7) + "#(1" + ")".repeat(8) + ")<2;");
        Check.errorAtMark(1, HOLD + "max(" + "(".repeat(7) + "#(1" + ")".repeat(8) + ",1)<2;");
    }

    private static void depthOfSquare() {
        for (int depth = 1; depth <= 8; depth++) {
            Check.taught(HOLD + "[".repeat(depth) + "1<2" + "]".repeat(depth) + ";");
        }
        Check.errorAtMark(1, HOLD + "[".repeat(8) + "#[1<2" + "]".repeat(9) + ";");
        Check.taught(HOLD + "[" + "[".repeat(7) + "1<2" + "]".repeat(7) + " or " + "[".repeat(7) + "1<2" + "]".repeat(7) + "];");
        Check.errorAtMark(1, HOLD + "[" + "[".repeat(7) + "1<2" + "]".repeat(7) + " or " + "[".repeat(7) + "#[1<2"
                + "]".repeat(8) + "];");
        Check.taught(HOLD + "[".repeat(7) + "(1)<2" + "]".repeat(7) + ";");
        Check.errorAtMark(1, HOLD + "[".repeat(8) + "#(1)<2" + "]".repeat(8) + ";");
        Check.errorAtMark(1, HOLD + "[".repeat(8) + "1<#(2)" + "]".repeat(8) + ";");
    }

    private static void depthOfMinus() {
        for (int depth = 1; depth <= 8; depth++) {
            Check.taught(HOLD + "-".repeat(depth) + "1<2;");
            Check.taught(HOLD + "2<" + "-".repeat(depth) + "1;");
        }
        Check.errorAtMark(1, HOLD + "-".repeat(8) + "#-1<2;");
        Check.errorAtMark(1, HOLD + "2<" + "-".repeat(8) + "#-1;");
        // It turns the next value alone: what is behind it is not deeper.
        Check.taught(HOLD + "-".repeat(8) + "1+" + "-".repeat(8) + "1*" + "-".repeat(8) + "1/" + "(".repeat(8) + "1"
                + ")".repeat(8) + "<2;");
        Check.taught(HOLD + "-".repeat(7) + "(1)<2;");
        Check.errorAtMark(1, HOLD + "-".repeat(8) + "#(1)<2;");
        Check.errorAtMark(1, HOLD + "-".repeat(8) + "min#(1,2)<2;");
        // One between two values is none in front.
        Check.taught(HOLD + "9" + "-1".repeat(12) + "<2;");
        Check.taught(HOLD + "9-" + "-".repeat(8) + "1<2;");
        Check.errorAtMark(1, HOLD + "9-" + "-".repeat(8) + "#-1<2;");
    }

    private static void depthOfNot() {
        for (int depth = 1; depth <= 8; depth++) {
            Check.taught(HOLD + "not ".repeat(depth) + "1<2;");
        }
        Check.errorAtMark(1, HOLD + "not ".repeat(8) + "#not 1<2;");
        // What it turns is the next single one, with both its sides, and not what is behind an and or an or.
        Check.taught(HOLD + "not ".repeat(7) + "(1)<(2);");
        Check.errorAtMark(1, HOLD + "not ".repeat(8) + "#(1)<2;");
        Check.errorAtMark(1, HOLD + "not ".repeat(8) + "1<#(2);");
        Check.errorAtMark(1, HOLD + "not ".repeat(8) + "1<#-2;");
        Check.errorAtMark(1, HOLD + "not ".repeat(8) + "#[1<2];");
        Check.taught(HOLD + "not ".repeat(8) + "1<2 and " + "not ".repeat(8) + "open p or " + "not ".repeat(8) + "carried m;");
        Check.taught(HOLD + "not ".repeat(8) + "1<2 and " + "[".repeat(8) + "1<2" + "]".repeat(8) + ";");
        Check.errorAtMark(1, HOLD + "not ".repeat(8) + "1<2 or " + "not ".repeat(8) + "#not 1<2;");
    }

    private static void depthOfAllSorts() {
        Check.taught(HOLD + "not [not [not -(-1)<2]];");
        Check.taught(HOLD + "not [not [not [-(1)<2]]];");
        Check.errorAtMark(1, HOLD + "not [not [not [-(#-1)<2]]];");
        Check.taught(HOLD + "[not [[not [(min(1,2))<2]]]];");
        Check.errorAtMark(1, HOLD + "[not [[not [(min(1,#-2))<2]]]];");
        Check.errorAtMark(1, HOLD + "[not [[not [not (max#(1,2))<2]]]];");
        Check.errorAtMark(1, HOLD + "not not not not [[[[#[1<2]]]]];");
        Check.errorAtMark(1, HOLD + "[[[[not not not not #-1<2]]]];");
        Check.taught(HOLD + "[[[[not not not not minute<2]]]];");
        Check.taught(HOLD + "[[[[not not not -1<2]]]];");
    }

    // ---- error 1

    private static void firstWrongToken() {
        Check.errorAtMark(1, "#a peak sun;");
        Check.errorAtMark(1, "#;");
        Check.errorAtMark(1, TWO + "#;");
        Check.errorAtMark(1, "peak a sun from 0 to 0 mirrors 0 #mirrors 0;");
        Check.errorAtMark(1, "peak a #from 0 to 0 mirrors 0;");
        Check.errorAtMark(1, "peak a sun from #a to 0 mirrors 0;");
        Check.errorAtMark(1, TWO + "pass p between a #to b far 3;");
        Check.errorAtMark(1, FULL + "cloud over p every 3 #from 0 for 1;");
        Check.errorAtMark(1, FULL + "message n words 1 at a #and b due 0;");
        Check.errorAtMark(1, HOLD + "[1<2#);");
        Check.errorAtMark(1, HOLD + "(1#]<2;");
        Check.errorAtMark(1, HOLD + "(1#<2);");
        Check.errorAtMark(1, HOLD + "1<2#<3;");
        Check.errorAtMark(1, HOLD + "1#and 2;");
        Check.errorAtMark(1, HOLD + "min(1#;2)<2;");
        // Of two wrong tokens the first one.
        Check.errorAtMark(1, "peak a #son form 0;");
    }

    private static void bytesOfNoToken() {
        for (int sign = 0; sign < 256; sign++) {
            boolean begins = isLetter(sign) || isDigit(sign) || isBlank(sign) || SYMBOLS.indexOf(sign) >= 0;
            if (!begins) {
                Check.error("" + (char) sign, 1, 0);
                Check.error(TWO + (char) sign, 1, TWO.length());
                Check.error(HOLD + "1" + (char) sign + "<2;", 1, HOLD.length() + 1);
                Check.error(HOLD + "minute" + (char) sign + "<2;", 1, HOLD.length() + 6);
            }
        }
        // The bytes on both sides of the symbols, digits and letters.
        for (char sign : new char[] {31, 33, 39, '.', ':', '?', '@', 'Z', '\\', '^', '_', '`', '{', 127, 128, 255, 9, 11, 13}) {
            Check.error(" " + sign, 1, 1);
        }
    }

    private static void tooLong() {
        Check.errorAtMark(1, "peak a sun from 0 to 0 mirrors 0;#abcdefghijk");
        Check.errorAtMark(1, "peak a sun from 0 to #1234567 mirrors 0;");
        // It is the first byte that counts, and not the one that is too much.
        Check.errorAtMark(1, "peak a #abcdefghijklmnop from 0 to 0 mirrors 0;");
        // Ahead of it nothing is wrong, nor is it in the place of a keyword of its beginning.
        Check.errorAtMark(1, "peak a sun from 0 to 0 #mirrorsssss 0;");
        Check.errorAtMark(1, HOLD + "1<2 and #1234567<2;");
    }

    private static void endOfTheTape() {
        String list = "peak a sun from 0 to 120 mirrors 1 ; pass p between a and b far 3 ; cloud over p every 3 for 1 from 0 ; "
                + "message m words 5 at a to b due 0 ; hold m when not [ open p or - ( 1 + 2 ) < min ( left m , 3 ) ] ;";
        for (int i = 1; i <= list.length(); i++) {
            boolean isEnd = i == list.length() || list.charAt(i) == ' ';
            if (isEnd && list.charAt(i - 1) != ';') {
                Check.error(list.substring(0, i), 1, i);
                Check.error(list.substring(0, i) + " \n ", 1, i + 3);
            }
        }
        Check.taught("peak a sun from 0 to 120 mirrors 1 ;");
        Check.error("peak a sun from 0 to 120 mirrors 1", 1, 34);
        Check.error("peak", 1, 4);
        Check.error("p", 1, 0);
        Check.taught("");
    }

    private static void whereTheDepthIsNine() {
        String eight = "[".repeat(8);
        Check.errorAtMark(1, HOLD + eight + "#(1)<2" + "]".repeat(8) + ";");
        Check.errorAtMark(1, HOLD + eight + "#[1<2]" + "]".repeat(8) + ";");
        Check.errorAtMark(1, HOLD + eight + "#-1<2" + "]".repeat(8) + ";");
        Check.errorAtMark(1, HOLD + eight + "#not 1<2" + "]".repeat(8) + ";");
        // Of min and max it is the ( as well, and not the word ahead of it.
        Check.errorAtMark(1, HOLD + eight + "min#(1,2)<2" + "]".repeat(8) + ";");
        Check.errorAtMark(1, HOLD + eight + "1<max  #(1,2)" + "]".repeat(8) + ";");
        // Not what is behind it, even if that is wrong, nor the end of the tape.
        Check.errorAtMark(1, HOLD + eight + "#(");
        Check.errorAtMark(1, HOLD + eight + "#-?");
        Check.errorAtMark(1, HOLD + eight + "min#");
        Check.errorAtMark(1, HOLD + eight + "min#;");
        String seven = "[".repeat(7);
        Check.taught(HOLD + seven + "(1)<2" + "]".repeat(7) + ";");
        Check.taught(HOLD + seven + "[1<2]" + "]".repeat(7) + ";");
        Check.taught(HOLD + seven + "-1<2" + "]".repeat(7) + ";");
        Check.taught(HOLD + seven + "not 1<2" + "]".repeat(7) + ";");
        Check.taught(HOLD + seven + "min(1,2)<2" + "]".repeat(7) + ";");
    }

    /** A list of so many tokens, two or three of which are "<2" or "<-2", and ";". */
    private static String tokens(int count) {
        // TWO has 20, the pass 9, the message 11, and "hold m when 1" 4 of them.
        int left = count - 44 - 3;
        return HOLD + "1" + "+1".repeat(left / 2) + (left % 2 == 0 ? "<2;" : "<-2;");
    }

    private static void token401() {
        for (int count = 390; count <= 400; count++) {
            Check.due("messages of " + count + " tokens", 1, Check.taught(tokens(count)).count(4));
        }
        Check.error(tokens(401), 1, tokens(401).length() - 1);
        Check.error(tokens(402), 1, tokens(402).length() - 2);
        Check.error(tokens(400) + "hold", 1, tokens(400).length());
        Check.error(tokens(400) + " hold m when 1<2;", 1, tokens(400).length() + 1);
        Check.error(tokens(399) + "peak z", 1, tokens(399).length() + 5);
        Check.error(tokens(400) + "?", 1, tokens(400).length());
        Check.error(tokens(400) + "\n\n;", 1, tokens(400).length() + 2);
        Check.error(tokens(400) + "abcdefghijk", 1, tokens(400).length());
        Check.error(tokens(399) + "?", 1, tokens(399).length());
        Check.error(tokens(398) + "hold ?", 1, tokens(398).length() + 5);
        // Nothing but symbols: an error ahead of the 401st token is told.
        Check.error(";".repeat(401), 1, 0);
        Check.error(HOLD + "-".repeat(400) + "1<2;", 1, HOLD.length() + 8);
    }

    private static void endBehindToken400() {
        Check.taught(tokens(400));
        Check.taught(tokens(400) + " \n");
        Check.taught(tokens(399) + "\n");
        String unfinished = tokens(401).substring(0, tokens(401).length() - 1);
        Check.error(unfinished, 1, unfinished.length());
        Check.error(unfinished + " ", 1, unfinished.length() + 1);
        String shorter = tokens(400).substring(0, tokens(400).length() - 1);
        Check.error(shorter, 1, shorter.length());
    }

    private static void firstByte() {
        Check.errorAtMark(1, "peak a sun from 0 to 0 mirrors 0; #mirrors");
        Check.errorAtMark(1, "peak a sun from 0 to 0 mirrors 0;\n#123456");
        Check.errorAtMark(1, TWO + "#<=");
        Check.errorAtMark(1, HOLD + "1<2  #>=");
        Check.errorAtMark(5, "peak a sun from 0 to   #1000 mirrors 0;");
        Check.errorAtMark(3, HOLD + "open  #qqqqqqqqqq;");
        Check.errorAtMark(2, TWO + "peak\n\n#a sun from 0 to 0 mirrors 0;");
    }

    // ---- errors 2 to 5

    private static void errorOneAheadOfAll() {
        String[] wrong = {"peak a sun from 0 to 0 mirrors 0;", "pass q between a and z far 3;", "pass q between a and b far 21;"};
        int[] errors = {2, 3, 5};
        int[] places = {5, 21, 27};
        for (int i = 0; i < wrong.length; i++) {
            Check.error(TWO + wrong[i], errors[i], TWO.length() + places[i]);
            Check.errorAtMark(1, TWO + wrong[i] + "#?");
            Check.errorAtMark(1, TWO + wrong[i] + "pass#");
            Check.errorAtMark(1, TWO + wrong[i].substring(0, wrong[i].length() - 1) + "#");
            Check.errorAtMark(1, TWO + wrong[i] + "pass #abcdefghijk");
        }
        // The 401st token as well.
        String many = tokens(400).replace("far 3", "far 0");
        Check.error(many, 5, TWO.length() + 27);
        Check.error(many + ";", 1, many.length());
    }

    private static void fromLeftToRight() {
        Check.errorAtMark(5, "peak a sun from #121 to 121 mirrors 5;peak a sun from 0 to 0 mirrors 0;");
        Check.errorAtMark(5, "peak a sun from 120 to #121 mirrors 5;peak a sun from 0 to 0 mirrors 0;");
        Check.errorAtMark(5, "peak a sun from 120 to 120 mirrors #5;peak a sun from 0 to 0 mirrors 0;");
        Check.errorAtMark(2, "peak a sun from 120 to 120 mirrors 4;peak #a sun from 121 to 0 mirrors 0;");
        Check.errorAtMark(3, TWO + "pass p between #z and z far 0;");
        Check.errorAtMark(3, TWO + "pass p between a and #z far 0;");
        Check.errorAtMark(5, TWO + "pass p between a and #a far 0;pass p between z and z far 0;");
        Check.errorAtMark(5, TWO + "pass p between a and b far #0;pass p between z and z far 0;");
        Check.errorAtMark(3, FULL + "cloud over #a every 1 for 0 from 60;");
        Check.errorAtMark(5, FULL + "cloud over p every #1 for 0 from 60;");
        Check.errorAtMark(5, FULL + "cloud over p every 2 for #0 from 60;");
        Check.errorAtMark(5, FULL + "cloud over p every 2 for 1 from #60;");
        Check.errorAtMark(2, FULL + "message #m words 0 at z to z due 1000;");
        Check.errorAtMark(5, FULL + "message n words #0 at z to z due 1000;");
        Check.errorAtMark(3, FULL + "message n words 1 at #z to z due 1000;");
        Check.errorAtMark(3, FULL + "message n words 1 at b to #z due 1000;");
        Check.errorAtMark(5, FULL + "message n words 1 at b to #b due 1000;");
        Check.errorAtMark(5, FULL + "message n words 1 at b to a due #1000;");
        Check.errorAtMark(3, FULL + "hold #p when open m and carried p;");
        Check.errorAtMark(3, HOLD + "open #m and carried p;");
        Check.errorAtMark(3, HOLD + "open p and carried #p or queue p<left a;");
        // A name that is told with an error is not looked at any more: the error ahead of it is told.
        Check.errorAtMark(5, "peak a sun from 0 to 0 mirrors #5;pass p between a and a far 3;");
    }

    private static String many(String line, int count) {
        StringBuilder text = new StringBuilder();
        for (int i = 0; i < count; i++) {
            text.append(line.replace("?", "" + i));
        }
        return text.toString();
    }

    private static final String PEAK = "peak n? sun from 0 to 0 mirrors 0;";
    private static final String PASS = "pass n? between a and b far 1;";
    private static final String CLOUD = "cloud over p every 2 for 1 from ?;";
    private static final String MESSAGE = "message n? words 1 at a to b due 0;";
    private static final String TEST = "hold m when minute>?;";

    private static void smallestNumber() {
        // The 9th peak, named as one ahead: 2 and not 4. The 8th one: 2. A new name: 4.
        Check.errorAtMark(2, many(PEAK, 8) + "peak #n0 sun from 0 to 0 mirrors 0;");
        Check.errorAtMark(2, many(PEAK, 8) + "peak #n7 sun from 0 to 0 mirrors 0;");
        Check.errorAtMark(2, many(PEAK, 7) + "peak #n6 sun from 0 to 0 mirrors 0;");
        Check.errorAtMark(4, many(PEAK, 8) + "peak #n8 sun from 0 to 0 mirrors 0;");
        Check.errorAtMark(2, TWO + many(PASS, 12) + "pass #n0 between a and b far 1;");
        Check.errorAtMark(2, TWO + many(PASS, 12) + "pass #n11 between a and b far 1;");
        Check.errorAtMark(2, TWO + many(PASS, 11) + "pass #n10 between a and b far 1;");
        Check.errorAtMark(4, TWO + many(PASS, 12) + "pass #n12 between a and b far 1;");
        Check.errorAtMark(2, TWO + many(MESSAGE, 8) + "message #n7 words 1 at a to b due 0;");
        Check.errorAtMark(4, TWO + many(MESSAGE, 8) + "message #n8 words 1 at a to b due 0;");
        // An unknown name, twice: 3 and not 5.
        Check.errorAtMark(3, TWO + "pass p between #z and z far 1;");
        Check.errorAtMark(3, TWO + "message m words 1 at #z to z due 0;");
        // A number that is out of its range and not less than its every is just 5.
        Check.errorAtMark(5, FULL + "cloud over p every 60 for #60 from 0;");
    }

    private static void toldTwice() {
        Check.errorAtMark(2, "peak a sun from 0 to 0 mirrors 0;peak #a sun from 0 to 0 mirrors 0;");
        Check.errorAtMark(2, FULL + "pass #p between a and b far 1;");
        Check.errorAtMark(2, FULL + "message #m words 1 at b to a due 0;");
        // Of another sort it can be; and of an object's lists each is for itself.
        Heliographs x = Check.taught("peak n sun from 0 to 0 mirrors 0;peak m sun from 0 to 0 mirrors 0;"
                + "pass n between n and m far 1;pass m between n and m far 1;message n words 1 at n to m due 0;"
                + "message m words 1 at n to m due 0;hold n when open n;hold n when open n;hold n when 1<2;");
        Check.due("the list once more", 0, Check.teach(x, "peak n sun from 0 to 0 mirrors 0;"));
        Check.due("its peaks", 1, x.count(1));
        // Names of a list with an error are forgotten.
        Check.due("a list with an error", 1, Check.teach(x, "peak o sun from 0 to 0 mirrors 0;?"));
        Check.due("a list behind it", 0, Check.teach(x, "peak o sun from 0 to 0 mirrors 0;"));
    }

    private static void toldAhead() {
        // In the line ahead, in the same line, in the line behind.
        Check.taught("peak a sun from 0 to 0 mirrors 0;peak b sun from 0 to 0 mirrors 0;pass p between a and b far 1;");
        Check.errorAtMark(3, "peak a sun from 0 to 0 mirrors 0;pass p between a and #b far 1;peak b sun from 0 to 0 mirrors 0;");
        Check.errorAtMark(3, TWO + "pass p between #p and b far 1;");
        Check.errorAtMark(3, TWO + "cloud over #p every 2 for 1 from 0;pass p between a and b far 1;");
        Check.errorAtMark(3, TWO + "message m words 1 at #m to b due 0;");
        Check.errorAtMark(3, TWO + "hold #m when 1<2;message m words 1 at a to b due 0;");
        Check.errorAtMark(3, FULL + "hold m when carried #n;message n words 1 at a to b due 0;");
        Check.errorAtMark(3, FULL + "hold m when open #q;pass q between a and b far 1;");
        Check.taught(FULL + "pass q between a and b far 1;hold m when open q;message n words 1 at a to b due 0;hold m when carried n;");
        // What was told in the list ahead of this one is not told.
        Heliographs x = Check.taught(TWO);
        Check.due("a list of passes alone", 3, Check.teach(x, "pass p between a and b far 1;"));
        Check.due("its error", 15, x.errorAt());
        Check.due("no name at all", 3, Check.teach(x, "hold m when 1<2;"));
        Check.due("its error", 5, x.errorAt());
    }

    private static void namesOfPeaks() {
        for (String no : new String[] {"p", "m", "z", "aa", "a1"}) {
            Check.errorAtMark(3, FULL + "pass q between #" + no + " and b far 1;");
            Check.errorAtMark(3, FULL + "pass q between a and #" + no + " far 1;");
            Check.errorAtMark(3, FULL + "message n words 1 at #" + no + " to b due 0;");
            Check.errorAtMark(3, FULL + "message n words 1 at a to #" + no + " due 0;");
            Check.errorAtMark(3, HOLD + "queue #" + no + "<1;");
            Check.errorAtMark(3, HOLD + "1<queue #" + no + ";");
        }
        Check.taught(FULL + "pass q between b and a far 1;message n words 1 at b to a due 0;hold m when queue a<queue b;");
    }

    private static void namesOfPasses() {
        for (String no : new String[] {"a", "m", "z", "pp", "p1"}) {
            Check.errorAtMark(3, FULL + "cloud over #" + no + " every 2 for 1 from 0;");
            Check.errorAtMark(3, HOLD + "open #" + no + ";");
        }
        Check.taught(FULL + "cloud over p every 2 for 1 from 0;hold m when open p;");
    }

    private static void namesOfMessages() {
        for (String no : new String[] {"a", "p", "z", "mm", "m1"}) {
            Check.errorAtMark(3, FULL + "hold #" + no + " when 1<2;");
            Check.errorAtMark(3, HOLD + "left #" + no + "<1;");
            Check.errorAtMark(3, HOLD + "breaks #" + no + "<1;");
            Check.errorAtMark(3, HOLD + "carried #" + no + ";");
        }
        Check.taught(HOLD + "left m<1 and breaks m<1 and carried m;");
    }

    private static void ninthPeak() {
        Check.due("seven", 7, Check.taught(many(PEAK, 7)).count(1));
        Check.due("eight", 8, Check.taught(many(PEAK, 8)).count(1));
        Check.errorAtMark(4, many(PEAK, 8) + "peak #n8 sun from 121 to 0 mirrors 0;");
        Check.errorAtMark(4, many(PEAK, 8) + "peak #n8 sun from 0 to 0 mirrors 0;peak n9 sun from 0 to 0 mirrors 0;");
    }

    private static void thirteenthPass() {
        Check.due("eleven", 11, Check.taught(TWO + many(PASS, 11)).count(2));
        Check.due("twelve", 12, Check.taught(TWO + many(PASS, 12)).count(2));
        Check.errorAtMark(4, TWO + many(PASS, 12) + "pass #n12 between a and b far 1;");
        Check.errorAtMark(4, TWO + many(PASS, 12) + "pass #n12 between z and z far 0;");
    }

    private static void ninthMessage() {
        Check.due("seven", 7, Check.taught(TWO + many(MESSAGE, 7)).count(4));
        Check.due("eight", 8, Check.taught(TWO + many(MESSAGE, 8)).count(4));
        Check.errorAtMark(4, TWO + many(MESSAGE, 8) + "message #n8 words 1 at a to b due 0;");
        Check.errorAtMark(4, TWO + many(MESSAGE, 8) + "message #n8 words 0 at z to z due 0;");
    }

    private static void ninthCloud() {
        Check.due("seven", 7, Check.taught(FULL + many(CLOUD, 7)).count(3));
        Check.due("eight", 8, Check.taught(FULL + many(CLOUD, 8)).count(3));
        Check.errorAtMark(4, FULL + many(CLOUD, 8) + "#cloud over p every 2 for 1 from 0;");
        Check.errorAtMark(4, FULL + many(CLOUD, 8) + "#cloud over z every 1 for 0 from 60;");
        // Over how many passes they lie does not count.
        Check.errorAtMark(4, FULL + "pass q between a and b far 1;" + many(CLOUD, 4) + many(CLOUD.replace("p", "q"), 4)
                + "#cloud over q every 2 for 1 from 0;");
    }

    private static void thirteenthHold() {
        Check.due("eleven", 11, Check.taught(FULL + many(TEST, 11)).count(5));
        Check.due("twelve", 12, Check.taught(FULL + many(TEST, 12)).count(5));
        Check.errorAtMark(4, FULL + many(TEST, 12) + "#hold m when minute>2;");
        Check.errorAtMark(4, FULL + many(TEST, 12) + "#hold z when open z;");
        // The twelfth one is one that holds.
        Heliographs x = Check.taught(FULL + many("hold m when minute<?;", 11) + "hold m when 1=1;");
        x.go(60);
        Check.due("held by the twelfth", 0, x.message(0, 3));
        Check.errorAtMark(4, FULL + "message n words 1 at a to b due 0;" + many(TEST, 6) + many(TEST.replace("m w", "n w"), 6)
                + "#hold n when 1<2;");
    }

    private static void numberedFromZero() {
        StringBuilder peaks = new StringBuilder();
        StringBuilder passes = new StringBuilder();
        StringBuilder messages = new StringBuilder();
        for (int i = 0; i < 8; i++) {
            peaks.append("peak k" + (7 - i) + " sun from " + i + " to 120 mirrors 1;");
            messages.append("message k" + (i * 3 % 8) + " words " + (i + 1) + " at k" + i + " to k" + (i + 1) % 8 + " due 0;");
        }
        for (int i = 0; i < 12; i++) {
            passes.append("pass k" + (i * 5 % 12) + " between k" + i % 8 + " and k" + (i + 3) % 8 + " far " + (i + 1) + ";");
        }
        Heliographs x = Check.taught(peaks.toString() + passes + messages);
        for (int i = 0; i < 8; i++) {
            Check.due("from of peak " + i, i, x.peak(i, 0));
            Check.due("words of message " + i, i + 1, x.message(i, 0));
            Check.due("peak of message " + i, 7 - i, x.message(i, 1));
            Check.due("goal of message " + i, 7 - (i + 1) % 8, x.message(i, 2));
        }
        for (int i = 0; i < 12; i++) {
            Check.due("far of pass " + i, i + 1, x.pass(i, 2));
            Check.due("first peak of pass " + i, 7 - i % 8, x.pass(i, 0));
            Check.due("second peak of pass " + i, 7 - (i + 3) % 8, x.pass(i, 1));
        }
        // Lines of other sorts between them do not count.
        Heliographs y = Check.taught("peak a sun from 1 to 2 mirrors 0;peak b sun from 2 to 2 mirrors 0;pass p between a and b far 4;"
                + "message m words 3 at a to b due 0;peak c sun from 3 to 3 mirrors 0;pass q between c and b far 5;"
                + "hold m when 1<2;message n words 4 at c to a due 0;");
        Check.due("from of peak 2", 3, y.peak(2, 0));
        Check.due("far of pass 1", 5, y.pass(1, 2));
        Check.due("words of message 1", 4, y.message(1, 0));
        Check.due("peak of message 1", 2, y.message(1, 1));
    }

    // ---- error 5

    /** A list with one number in the place of ?, which may be least to most; returns nothing, as all is checked. */
    private static void range(String text, int least, int most) {
        int mark = text.indexOf('?');
        for (int number : new int[] {least, least + 1, most - 1, most}) {
            Check.taught(text.replace("?", "" + number));
        }
        if (least > 0) {
            Check.error(text.replace("?", "" + (least - 1)), 5, mark);
        }
        Check.error(text.replace("?", "" + (most + 1)), 5, mark);
        Check.error(text.replace("?", "999999"), 5, mark);
        // Below 0 there is no number.
        Check.error(text.replace("?", "-1"), 1, mark);
    }

    private static void rangeOfSun() {
        range("peak a sun from ? to 60 mirrors 1;", 0, 120);
        range("peak a sun from 60 to ? mirrors 1;", 0, 120);
        Heliographs x = Check.taught("peak a sun from 0 to 120 mirrors 1;peak b sun from 120 to 0 mirrors 1;");
        Check.due("from of a", 0, x.peak(0, 0));
        Check.due("to of a", 120, x.peak(0, 1));
        Check.due("from of b", 120, x.peak(1, 0));
        Check.due("to of b", 0, x.peak(1, 1));
    }

    private static void rangeOfMirrors() {
        range("peak a sun from 0 to 120 mirrors ?;", 0, 4);
        Check.due("mirrors", 0, Check.taught("peak a sun from 0 to 120 mirrors 0;").peak(0, 2));
        Check.due("mirrors", 4, Check.taught("peak a sun from 0 to 120 mirrors 4;").peak(0, 2));
    }

    private static void rangeOfFar() {
        range(TWO + "pass p between a and b far ?;", 1, 20);
        Check.due("far", 1, Check.taught(TWO + "pass p between a and b far 1;").pass(0, 2));
        Check.due("far", 20, Check.taught(TWO + "pass p between a and b far 20;").pass(0, 2));
    }

    private static void rangeOfEvery() {
        range(FULL + "cloud over p every ? for 1 from 0;", 2, 60);
        Check.errorAtMark(5, FULL + "cloud over p every #61 for 60 from 0;");
        Check.errorAtMark(5, FULL + "cloud over p every #0 for 0 from 0;");
    }

    private static void rangeOfFor() {
        range(FULL + "cloud over p every 60 for ? from 0;", 1, 59);
    }

    private static void rangeOfFrom() {
        range(FULL + "cloud over p every 2 for 1 from ?;", 0, 59);
        range(FULL + "cloud over p every 60 for 59 from ?;", 0, 59);
    }

    private static void rangeOfWords() {
        range(TWO + "message m words ? at a to b due 0;", 1, 40);
        Check.due("words", 40, Check.taught(TWO + "message m words 40 at a to b due 0;").message(0, 0));
    }

    private static void rangeOfDue() {
        range(TWO + "message m words 1 at a to b due ?;", 0, 999);
    }

    private static void forAndEvery() {
        for (int every = 2; every <= 60; every++) {
            String text = FULL + "cloud over p every " + every + " for ";
            Check.taught(text + (every - 1) + " from 0;");
            Check.error(text + every + " from 0;", 5, text.length());
            Check.error(text + (every + 1) + " from 60;", 5, text.length());
        }
    }

    private static void secondPeak() {
        Check.errorAtMark(5, TWO + "pass p between a and #a far 1;");
        Check.errorAtMark(5, TWO + "pass p between b and #b far 1;");
        Check.taught(TWO + "pass p between a and b far 1;pass q between b and a far 1;");
        Check.errorAtMark(5, TWO + "pass p between a and b far 1;pass q between a and #a far 1;");
    }

    private static void toOfAMessage() {
        Check.errorAtMark(5, TWO + "message m words 1 at a to #a due 0;");
        Check.errorAtMark(5, TWO + "message m words 1 at b to #b due 0;");
        Check.taught(TWO + "message m words 1 at a to b due 0;message n words 1 at b to a due 0;");
    }

    private static void numbersOfTests() {
        Check.taught(HOLD + "0<1;hold m when 999998<999999;hold m when 000000<000001;");
        Check.errorAtMark(1, HOLD + "999999<#1000000;");
    }
}
