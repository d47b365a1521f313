import java.util.regex.Matcher;
import java.util.regex.Pattern;

/** Promises 4 and 5: teach and errorAt, with tokens, grammar, depth and the five errors. */
public final class LanguageTest {
    private static final String TWO = "peak a sun from 0 to 120 mirrors 1;peak b sun from 0 to 120 mirrors 1;";
    private static final String FULL = TWO + "pass p between a and b far 3;message m words 5 at a to b due 0;";

    public static void main(String[] args) {
        goodLists();
        beginsAnew();
        errorsLeaveAll();
        tokens();
        grammar();
        depth();
        mostTokens();
        namesTwice();
        namesUnknown();
        tooMany();
        ranges();
        whichErrorFirst();
        Check.end();
    }

    private static void goodLists() {
        Heliographs x = Check.taught("");
        Check.due("peaks of nothing", 0, x.count(1));
        Check.taught(" \n  \n");
        x = Check.taught("peak a sun from 10 to 20 mirrors 3;peak  b\nsun from 0 to 120 mirrors 0 ;\n"
                + "pass p between b and a far 20;cloud over p every 60 for 59 from 59;cloud over p every 2 for 1 from 0;"
                + "message m words 40 at b to a due 999;message n words 1 at a to b due 0;hold m when minute<5;");
        Check.due("peaks", 2, x.count(1));
        Check.due("passes", 1, x.count(2));
        Check.due("clouds", 2, x.count(3));
        Check.due("messages", 2, x.count(4));
        Check.due("holds", 1, x.count(5));
        Check.due("from of a", 10, x.peak(0, 0));
        Check.due("to of b", 120, x.peak(1, 1));
        Check.due("mirrors of a", 3, x.peak(0, 2));
        Check.due("first peak of p", 1, x.pass(0, 0));
        Check.due("second peak of p", 0, x.pass(0, 1));
        Check.due("far of p", 20, x.pass(0, 2));
        Check.due("words of m", 40, x.message(0, 0));
        Check.due("peak of n", 0, x.message(1, 1));
        Check.due("goal of m", 0, x.message(0, 2));
        // The sorts have names of their own, and a name can be any word that is no keyword.
        Check.taught("peak x sun from 0 to 0 mirrors 0;peak peaks sun from 0 to 0 mirrors 0;"
                + "pass x between x and peaks far 1;message x words 1 at x to peaks due 0;hold x when open x;");
        Check.taught("peak abcdefghij sun from 0 to 0 mirrors 0;peak a123456789 sun from 000120 to 0 mirrors 0;");
    }

    private static void beginsAnew() {
        Heliographs x = Check.taught(FULL + "hold m when 1<0;");
        x.go(3);
        x.stop(0);
        x.mirror(0, true);
        Check.due("breaks", 1, x.count(11));
        Check.due("teach", 0, Check.teach(x, FULL + "cloud over p every 9 for 1 from 0;"));
        Check.due("minute stays", 3, x.count(0));
        Check.due("breaks anew", 0, x.count(11));
        Check.due("mirrors anew", 1, x.peak(0, 2));
        Check.due("words over the pass anew", 0, x.pass(0, 5));
        Check.due("state anew", 0, x.message(0, 3));
        Check.due("breaks of m anew", 0, x.message(0, 6));
        Check.due("clouds", 1, x.count(3));
        Check.due("holds", 0, x.count(5));
        Check.due("teach of nothing", 0, x.teach());
        for (int what = 1; what <= 13; what++) {
            Check.due("count(" + what + ") behind nothing", 0, x.count(what));
        }
        Check.due("minute stays still", 3, x.count(0));
        Check.due("clouds and holds of the last list alone", 0, Check.teach(x, FULL + "hold m when 2<1;"));
        Check.due("teach", 0, Check.teach(x, FULL + "cloud over p every 9 for 1 from 0;"));
        Check.due("teach", 0, Check.teach(x, FULL + "hold m when 2<1;"));
        Check.due("clouds", 0, x.count(3));
        Check.due("holds", 1, x.count(5));
        Check.due("teach", 0, Check.teach(x, FULL));
        Check.due("clouds", 0, x.count(3));
        Check.due("holds", 0, x.count(5));
        x.go(10);
        Check.due("passes of m", 1, x.message(0, 8));
        Check.due("teach", 0, Check.teach(x, FULL));
        Check.due("passes of m anew", 0, x.message(0, 8));
        Check.due("minute in which m came anew", -1, x.message(0, 7));
        holdsOfManyLists();
        // What was lost is begun anew as well: far 7, at minute 1 with 4 words left.
        Heliographs y = Check.taught(TWO + "pass p between a and b far 7;message m words 4 at a to b due 0;");
        y.go(2);
        Check.due("lost", 1, y.count(12));
        y.teach();
        Check.due("lost anew", 0, y.count(12));
    }

    /** Large tests, one after the other, on one object: none stands in the way of the next. */
    private static void holdsOfManyLists() {
        Heliographs x = new Heliographs();
        StringBuilder ones = new StringBuilder("0");
        for (int i = 0; i < 150; i++) {
            ones.append("+1");
        }
        for (int i = 146; i < 155; i++) {
            Check.due("teach", 0, Check.teach(x, FULL + "hold m when " + ones + "=" + i + ";"));
            x.go(1);
            Check.due("held with " + i, i == 150 ? 0 : 1, x.message(0, 3));
        }
    }

    private static void errorsLeaveAll() {
        Heliographs x = Check.taught(FULL);
        x.go(2);
        x.stop(0);
        long before = x.digest();
        Check.due("teach", 1, Check.teach(x, FULL + "oh"));
        Check.due("errorAt", FULL.length(), x.errorAt());
        Check.due("digest", before, x.digest());
        Check.due("teach", 3, Check.teach(x, FULL + "hold o when open p;"));
        Check.due("errorAt", FULL.length() + 5, x.errorAt());
        Check.due("digest", before, x.digest());
        Check.due("teach", 0, Check.teach(x, FULL));
        Check.due("errorAt", -1, x.errorAt());
    }

    private static void tokens() {
        Check.errorAtMark(1, "#!");
        Check.errorAtMark(1, "peak a sun from 0 to 0 mirrors 0;#\tpeak");
        Check.errorAtMark(1, "#\r");
        Check.errorAtMark(1, "#\0");
        Check.errorAtMark(1, "#Peak a sun from 0 to 0 mirrors 0;");
        Check.errorAtMark(1, "peak #abcdefghijk sun from 0 to 0 mirrors 0;");
        Check.errorAtMark(1, "peak #1 sun from 0 to 0 mirrors 0;");
        Check.errorAtMark(1, "peak a sun from #0000000 to 0 mirrors 0;");
        Check.errorAtMark(1, "#peaka sun from 0 to 0 mirrors 0;");
        Check.errorAtMark(1, "peak a #sun1 from 0 to 0 mirrors 0;");
        // A number and a word behind it would not be read as one.
        Check.taught("peak a sun from 0to 0mirrors 0;peak b sun from 0to 120mirrors 1;");
        // The longest possible token is read.
        Check.taught(FULL + "hold m when 1<=2;hold m when 1>=2;hold m when 1<-2;hold m when 1=-2;");
        Check.errorAtMark(1, FULL + "hold m when 1<#>2;");
        Check.errorAtMark(1, FULL + "hold m when 1< #=2;");
        Check.errorAtMark(1, FULL + "hold m when 1=#<2;");
    }

    private static void grammar() {
        Check.errorAtMark(1, "#;");
        Check.errorAtMark(1, "peak a sun from 0 to 0 mirrors 0;#;");
        Check.errorAtMark(1, "#a");
        Check.errorAtMark(1, "#sun");
        Check.errorAtMark(1, "peak#");
        Check.errorAtMark(1, "peak  #");
        Check.errorAtMark(1, "peak a sun from 0 to 0 mirrors 0#");
        Check.errorAtMark(1, "peak a sun from 0 to 0 mirrors 0\n#");
        Check.errorAtMark(1, "peak #sun sun from 0 to 0 mirrors 0;");
        Check.errorAtMark(1, "peak a sun #to 0 from 0 mirrors 0;");
        Check.errorAtMark(1, "peak a sun from #-1 to 0 mirrors 0;");
        Check.errorAtMark(1, "peak a sun from #to 0 mirrors 0;");
        Check.errorAtMark(1, "peak a sun from 0 to 0 mirrors #;");
        Check.errorAtMark(1, "peak #sun from 0 to 0 mirrors 0;");
        Check.errorAtMark(1, TWO + "pass p between #and b far 1;");
        Check.errorAtMark(1, TWO + "pass p between a and #far 1;");
        Check.errorAtMark(1, FULL + "hold #when 1 < 2;");
        Check.errorAtMark(1, FULL + "hold m when open #;");
        Check.errorAtMark(1, FULL + "hold m when queue #< 2;");
        Check.errorAtMark(1, "peak a sun from 0 to 0 mirrors 0 #peak b sun from 0 to 0 mirrors 0;");
        Check.errorAtMark(1, TWO + "pass p between a #b far 1;");
        Check.errorAtMark(1, TWO + "pass p between a and b far 1#,");
        Check.errorAtMark(1, FULL + "cloud #p every 2 for 1 from 0;");
        Check.errorAtMark(1, FULL + "message n words 1 at a to b #;");
        Check.errorAtMark(1, FULL + "hold m #minute < 5;");
        Check.errorAtMark(1, FULL + "hold m when #;");
        Check.errorAtMark(1, FULL + "hold m when minute#;");
        Check.errorAtMark(1, FULL + "hold m when minute < 5 #< 6;");
        Check.errorAtMark(1, FULL + "hold m when (minute #< 5);");
        Check.errorAtMark(1, FULL + "hold m when [minute < 5#;");
        Check.errorAtMark(1, FULL + "hold m when (minute#] < 5;");
        Check.errorAtMark(1, FULL + "hold m when open #1;");
        Check.errorAtMark(1, FULL + "hold m when open #open;");
        Check.errorAtMark(1, FULL + "hold m when #p < 1;");
        Check.errorAtMark(1, FULL + "hold m when min #2 < 1;");
        Check.errorAtMark(1, FULL + "hold m when min(2#) < 1;");
        Check.errorAtMark(1, FULL + "hold m when max(2,3#,4) < 1;");
        Check.errorAtMark(1, FULL + "hold m when 1 + #+ 2 < 1;");
        Check.errorAtMark(1, FULL + "hold m when 1 < 2 and #;");
        Check.errorAtMark(1, FULL + "hold m when 1 < 2 or #or 1 < 2;");
        Check.errorAtMark(1, FULL + "hold m when not #;");
        Check.errorAtMark(1, FULL + "hold m when 1 < #not 2;");
        Check.errorAtMark(1, FULL + "hold m when open p #< 2;");
        Check.errorAtMark(1, FULL + "hold m when queue a #and 1 < 2;");
        Check.taught(FULL + "hold m when not not [ open p or carried m and [ 1 < 2 ] ] and - - 1 * ( 2 + queue a ) "
                + "/ left m - breaks m >= min ( max ( 1 , minute ) , - 3 ) or 1 = 1 ;");
    }

    private static void depth() {
        String eight = "[[[[[[[[ 1 < 2 ]]]]]]]]";
        Check.taught(FULL + "hold m when " + eight + ";");
        Check.errorAtMark(1, FULL + "hold m when [[[[[[[[#[ 1 < 2 ]]]]]]]]];");
        Check.taught(FULL + "hold m when " + eight + " and " + eight + " or 1<2;");
        Check.taught(FULL + "hold m when ((((((((1)))))))) < 2;");
        Check.errorAtMark(1, FULL + "hold m when ((((((((#(1))))))))) < 2;");
        Check.taught(FULL + "hold m when --------1 < --------2;");
        Check.errorAtMark(1, FULL + "hold m when --------#-1 < 2;");
        Check.taught(FULL + "hold m when not not not not not not not not 1 < 2;");
        Check.errorAtMark(1, FULL + "hold m when not not not not not not not not #not 1 < 2;");
        Check.errorAtMark(1, FULL + "hold m when not not not not not not not not #-1 < 2;");
        Check.errorAtMark(1, FULL + "hold m when not not not not not not not not 1 < #(2);");
        Check.taught(FULL + "hold m when not [not [-(min(-1, 2)) < 2] ] and [1 < 2];");
        Check.taught(FULL + "hold m when not [not [not -(min(1, 2)) < 2] ];");
        Check.errorAtMark(1, FULL + "hold m when not [not [-(min(2, -max#(1, 2))) < 2] ];");
        Check.errorAtMark(1, FULL + "hold m when not [not [not -(min(2, #-1)) < 2] ];");
        Check.taught(FULL + "hold m when min((((((((1))))))), (((((((2)))))))) < 2;");
        Check.errorAtMark(1, FULL + "hold m when min((((((((#(1)))))))), 2) < 2;");
        Check.errorAtMark(1, FULL + "hold m when max(1, (((((((#(2))))))))) < 2;");
        // A minus between two values is not one in front of a value.
        Check.taught(FULL + "hold m when 1-2-3-4-5-6-7-8-9-10-11 < 2-1;");
        Check.taught(FULL + "hold m when not not not not not not not not 1 < 2 and not 3 - 1 < 2;");
    }

    private static void mostTokens() {
        StringBuilder sum = new StringBuilder(FULL + "hold m when 1");
        for (int i = 0; i < 176; i++) {
            sum.append("+1");
        }
        String text = sum.toString();
        Check.due("tokens", 396, tokensOf(text));
        Check.taught(text + "<2 ;  \n");
        // Just 400 tokens, the end not counted.
        Check.taught(text + "<-2 ;  \n");
        Check.error(text + "<--2;", 1, text.length() + 4);
        Check.error(text + "<22+", 1, text.length() + 4);
        Check.error(text + "<2+", 1, text.length() + 3);
        Check.error(text + "<2+2;", 1, text.length() + 4);
        Check.error(text + "+1<2;", 1, text.length() + 4);
        Check.error(text + "<2; ;", 1, text.length() + 4);
        Check.error(text + "<2;peak", 1, text.length() + 7);
        Check.error(text + "<2;peak z", 1, text.length() + 8);
        Check.error(text + "<2+2?", 1, text.length() + 4);
    }

    private static int tokensOf(String text) {
        Matcher matcher = Pattern.compile("[a-z][a-z0-9]*|[0-9]+|<=|>=|[^ \n]").matcher(text);
        int count = 0;
        while (matcher.find()) {
            count++;
        }
        return count;
    }

    private static void namesTwice() {
        Check.errorAtMark(2, TWO + "peak #a sun from 0 to 0 mirrors 0;");
        Check.errorAtMark(2, FULL + "pass #p between b and a far 3;");
        Check.errorAtMark(2, FULL + "message #m words 5 at a to b due 0;");
        // Names that differ in their last sign are two.
        Check.taught("peak abcdefghi1 sun from 0 to 0 mirrors 0;peak abcdefghi2 sun from 0 to 0 mirrors 0;");
        Check.taught("peak a sun from 0 to 0 mirrors 0;peak aa sun from 0 to 0 mirrors 0;peak a0 sun from 0 to 0 mirrors 0;");
    }

    private static void namesUnknown() {
        Check.errorAtMark(3, TWO + "pass p between #c and b far 3;peak c sun from 0 to 0 mirrors 0;");
        Check.errorAtMark(3, TWO + "pass p between a and #p far 3;");
        Check.errorAtMark(3, FULL + "cloud over #a every 2 for 1 from 0;");
        Check.errorAtMark(3, FULL + "message n words 1 at #m to b due 0;");
        Check.errorAtMark(3, FULL + "message n words 1 at a to #n due 0;");
        Check.errorAtMark(3, FULL + "hold #p when 1 < 2;");
        Check.errorAtMark(3, FULL + "hold m when open #m;");
        Check.errorAtMark(3, FULL + "hold m when carried #p;");
        Check.errorAtMark(3, FULL + "hold m when queue #m < 2;");
        Check.errorAtMark(3, FULL + "hold m when left #a < 2;");
        Check.errorAtMark(3, FULL + "hold m when 2 < breaks #b;");
        Check.errorAtMark(3, FULL + "hold #n when 1 < 2;message n words 1 at a to b due 0;");
    }

    private static String many(String line, int count) {
        StringBuilder text = new StringBuilder();
        for (int i = 0; i < count; i++) {
            text.append(line.replace("?", "" + i));
        }
        return text.toString();
    }

    private static void tooMany() {
        String peaks = many("peak n? sun from 0 to 0 mirrors 0;", 8);
        Check.due("peaks", 8, Check.taught(peaks).count(1));
        Check.errorAtMark(4, peaks + "peak #z sun from 0 to 0 mirrors 0;");
        Check.errorAtMark(2, peaks + "peak #n7 sun from 0 to 0 mirrors 0;");
        String passes = many("pass n? between a and b far 1;", 12);
        Check.due("passes", 12, Check.taught(TWO + passes).count(2));
        Check.errorAtMark(4, TWO + passes + "pass #z between a and b far 1;");
        Check.errorAtMark(2, TWO + passes + "pass #n11 between a and b far 1;");
        String clouds = many("cloud over p every 2 for 1 from ?;", 8);
        Check.due("clouds", 8, Check.taught(FULL + clouds).count(3));
        Check.errorAtMark(4, FULL + clouds + "#cloud over z every 1 for 1 from 0;");
        String messages = many("message n? words 1 at a to b due 0;", 8);
        Check.due("messages", 8, Check.taught(TWO + messages).count(4));
        Check.errorAtMark(4, TWO + messages + "message #z words 0 at a to b due 0;");
        Check.errorAtMark(2, TWO + messages + "message #n0 words 0 at a to b due 0;");
        String holds = many("hold m when minute > ?;", 12);
        Check.due("holds", 12, Check.taught(FULL + holds).count(5));
        Check.errorAtMark(4, FULL + holds + "#hold z when 1 < 2;");
    }

    private static void ranges() {
        Check.errorAtMark(5, "peak a sun from #121 to 0 mirrors 0;");
        Check.errorAtMark(5, "peak a sun from 120 to #121 mirrors 0;");
        Check.errorAtMark(5, "peak a sun from 0 to 0 mirrors #5;");
        Check.taught("peak a sun from 120 to 120 mirrors 4;");
        Check.errorAtMark(5, TWO + "pass p between a and b far #0;");
        Check.errorAtMark(5, TWO + "pass p between a and b far #21;");
        Check.taught(TWO + "pass p between a and b far 1;pass q between a and b far 20;");
        Check.errorAtMark(5, TWO + "pass p between a and #a far 1;");
        Check.errorAtMark(5, FULL + "cloud over p every #1 for 1 from 0;");
        Check.errorAtMark(5, FULL + "cloud over p every #61 for 1 from 0;");
        Check.errorAtMark(5, FULL + "cloud over p every 9 for #0 from 0;");
        Check.errorAtMark(5, FULL + "cloud over p every 9 for #9 from 0;");
        Check.errorAtMark(5, FULL + "cloud over p every 60 for #60 from 0;");
        Check.errorAtMark(5, FULL + "cloud over p every 9 for 8 from #60;");
        Check.taught(FULL + "cloud over p every 9 for 8 from 59;cloud over p every 2 for 1 from 0;");
        Check.errorAtMark(5, TWO + "message m words #0 at a to b due 0;");
        Check.errorAtMark(5, TWO + "message m words #41 at a to b due 0;");
        Check.errorAtMark(5, TWO + "message m words 1 at a to b due #1000;");
        Check.errorAtMark(5, TWO + "message m words 1 at b to #b due 0;");
        Check.taught(TWO + "message m words 1 at a to b due 0;message n words 40 at a to b due 999;");
        Check.taught(FULL + "hold m when 999999 < 000000;");
    }

    private static void whichErrorFirst() {
        // An error of the grammar goes ahead of all others, wherever it is.
        Check.errorAtMark(1, "peak a sun from 999 to 0 mirrors 9;peak a#;");
        // Of the others the one that is farthest left.
        Check.errorAtMark(5, "peak a sun from 0 to #999 mirrors 9;peak a sun from 0 to 0 mirrors 0;");
        Check.errorAtMark(2, TWO + "peak #a sun from 999 to 0 mirrors 0;");
        Check.errorAtMark(3, FULL + "cloud over #z every 1 for 1 from 0;");
        Check.errorAtMark(3, TWO + "pass p between #z and z far 0;");
        Check.errorAtMark(5, FULL + "cloud over p every #1 for 60 from 60;");
    }
}
