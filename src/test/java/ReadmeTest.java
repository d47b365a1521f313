/** The calls of the example in README.md answer what stands there. */
public final class ReadmeTest {
    public static void main(String[] args) {
        Heliographs x = new Heliographs();
        feed(x, "peak a sun from 0 to 120 mirrors 1; peak b sun from 0 to 60 mirrors 1;"
                + " pass ab between a and b far 3; cloud over ab every 10 for 2 from 0;"
                + " message m words 4 at a to b due 0;");
        Check.due("teach()", 0, x.teach());
        Check.due("until(0)", 7, x.until(0));
        Check.due("go(7)", 1, x.go(7));
        Check.due("message(0, 7)", 6, x.message(0, 7));
        Check.end();
    }

    private static void feed(Heliographs x, String list) {
        int length = x.count(13) + list.length();
        for (int i = 0; i < list.length(); i += 20) {
            x.feed(four(list, i), four(list, i + 4), four(list, i + 8), four(list, i + 12), four(list, i + 16));
        }
        x.trim(length);
    }

    private static int four(String list, int start) {
        int number = 0;
        for (int i = start; i < start + 4; i++) {
            number = number << 8 | (i < list.length() ? list.charAt(i) & 255 : 0);
        }
        return number;
    }
}
