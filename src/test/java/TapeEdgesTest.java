/** Promises 2 and 3 at their edges. */
final class TapeEdgesTest {
    private static final Edges EDGES = new Edges("TapeEdgesTest");
    private static final int BLANKS = 0x20202020;

    public static void main(String[] args) {
        moreThanSixHundred();
        highestFirst();
        bytesHaveNoSign();
        behindThoseOnTheTape();
        notSoMany();
        firstBytesAlone();
        theTapeGoes();
        EDGES.finish();
    }

    private static long feedBlanks(ThreeDays x) {
        return x.feed(BLANKS, BLANKS, BLANKS, BLANKS, BLANKS);
    }

    /** n bytes on the tape, a text with a total at its front. */
    private static Edges.Calls withBytes(int n) {
        return x -> {
            x.rider(-1);
            Due.feed(x, "total=77;" + " ".repeat(Math.max(0, n - 9)));
            x.end(n);
        };
    }

    private static void moreThanSixHundred() {
        EDGES.sentence("2: NONE, doing nothing, if there would be more than 600");
        int[] room = {0, 1, 19, 20, 21, 560, 579, 580};
        for (int n : room) {
            EDGES.answers("feed behind " + n, withBytes(n), TapeEdgesTest::feedBlanks, n + 20);
        }
        int[] none = {581, 582, 590, 599, 600};
        for (int n : none) {
            EDGES.refused("feed behind " + n, withBytes(n), TapeEdgesTest::feedBlanks, -1);
            EDGES.refused("feed of other bytes behind " + n, withBytes(n), x -> x.feed(-1, -1, -1, -1, -1), -1);
            ThreeDays x = Edges.made(withBytes(n));
            x.feed(-1, -1, -1, -1, -1);
            EDGES.due("no byte more behind " + n, x.end(n + 1), false);
            EDGES.due("as many as before behind " + n, x.end(n), true);
        }
        ThreeDays x = Edges.made(withBytes(600));
        for (int n = 0; n < 5; n++) {
            EDGES.due("refused again and again", feedBlanks(x), -1);
        }
        EDGES.due("room again", x.end(580), true);
        EDGES.due("feed into it", feedBlanks(x), 600);
        EDGES.due("and full again", feedBlanks(x), -1);
    }

    private static void highestFirst() {
        EDGES.sentence("2: twenty bytes, of each number the highest first");
        for (int place = 0; place < 20; place++) {
            int[] f = {BLANKS, BLANKS, BLANKS, BLANKS, BLANKS};
            int shift = 24 - 8 * (place % 4);
            f[place / 4] = BLANKS & ~(255 << shift) | '?' << shift;
            ThreeDays x = new ThreeDays();
            x.feed(f[0], f[1], f[2], f[3], f[4]);
            x.rules();
            EDGES.due("a ? at " + place + ": fault", x.fault(0), 1);
            EDGES.due("a ? at " + place + ": its place", x.fault(1), place);
        }
    }

    private static void bytesHaveNoSign() {
        EDGES.sentence("2: bytes");
        int[] odd = {0, 1, 9, 11, 31, 33, 127, 128, 10 + 128, 32 + 128, 't' + 128, 254, 255};
        for (int b : odd) {
            for (int place = 0; place < 4; place++) {
                int shift = 24 - 8 * place;
                ThreeDays x = new ThreeDays();
                x.feed(BLANKS & ~(255 << shift) | b << shift, BLANKS, BLANKS, BLANKS, BLANKS);
                x.rules();
                EDGES.due("byte " + b + " at " + place + ": fault", x.fault(0), 1);
                EDGES.due("byte " + b + " at " + place + ": its place", x.fault(1), place);
            }
        }
        int[] numbers = {Integer.MIN_VALUE, Integer.MAX_VALUE, -1, 0, 1};
        for (int n : numbers) {
            EDGES.answers("feed of " + n, Edges::empty, x -> x.feed(n, n, n, n, n), 20);
        }
    }

    private static void behindThoseOnTheTape() {
        EDGES.sentence("2: twenty bytes come behind those on the tape");
        for (int n = 0; n <= 9; n++) {
            ThreeDays x = new ThreeDays();
            x.rider(-1);
            Due.feed(x, "total=1234;".substring(0, n));
            String rest = "total=1234;".substring(n) + " ".repeat(20);
            EDGES.due("the rest behind " + n, x.feed(Due.four(rest, 0), Due.four(rest, 4), Due.four(rest, 8),
                Due.four(rest, 12), Due.four(rest, 16)), n + 20);
            EDGES.due("rules of both, cut at " + n, x.rules(), 1);
            EDGES.due("total of both, cut at " + n, x.total(0), 1234);
        }
    }

    private static void notSoMany() {
        EDGES.sentence("3: false, doing nothing, if it has not so many, or n is below 0");
        int[] lengths = {0, 1, 20, 21, 599, 600};
        for (int length : lengths) {
            int[] wrong = {-1, -2, length + 1, length + 2, length + 256, Integer.MIN_VALUE, Integer.MAX_VALUE};
            for (int n : wrong) {
                EDGES.refused("end(" + n + ") of " + length, withBytes(length), x -> Edges.number(x.end(n)), 0);
            }
            int[] right = {0, Math.max(0, length - 1), length};
            for (int n : right) {
                EDGES.answers("end(" + n + ") of " + length, withBytes(length), x -> Edges.number(x.end(n)), 1);
            }
        }
        EDGES.refused("end(-1) of a busy one", Edges::busy, x -> Edges.number(x.end(-1)), 0);
        EDGES.refused("end(21) of a busy one", Edges::busy, x -> Edges.number(x.end(21)), 0);
    }

    private static void firstBytesAlone() {
        EDGES.sentence("3: the tape has its first n bytes alone");
        String text = "total=123;tie 5;";
        for (int n = 0; n <= text.length(); n++) {
            ThreeDays x = new ThreeDays();
            x.rider(-1);
            Due.feed(x, text);
            EDGES.due("end(" + n + ")", x.end(n), true);
            EDGES.due("one more than " + n, x.end(n + 1), false);
            EDGES.due("the same once more, " + n, x.end(n), true);
            EDGES.due("rules of " + n, x.rules(), n == 10 ? 1 : n == 16 ? 2 : -1);
        }
        ThreeDays x = new ThreeDays();
        Due.feed(x, text);
        x.end(0);
        EDGES.due("none are left", x.rules(), -1);
        EDGES.due("the empty text has no total", x.fault(0), 4);
        EDGES.due("at its length", x.fault(1), 0);
        EDGES.answers("what was cut off does not come back", y -> {
            y.rider(-1);
            Due.feed(y, text);
            y.end(9);
            y.feed(Due.four(";   ", 0), BLANKS, BLANKS, BLANKS, BLANKS);
        }, y -> y.rules(), 1);
    }

    private static void theTapeGoes() {
        EDGES.sentence("12: the tape (it goes)");
        String[] texts = {"", "total=1;", "total=;", "total=1;" + " ".repeat(592), "?" + " ".repeat(599)};
        for (String text : texts) {
            ThreeDays x = new ThreeDays();
            Due.rules(x, text);
            EDGES.due("no byte is left of " + text.length(), x.end(1), false);
            EDGES.due("from the first on behind " + text.length(), feedBlanks(x), 20);
            EDGES.due("blanks alone behind " + text.length(), x.rules(), -1);
            EDGES.due("they have no total", x.fault(0), 4);
            EDGES.due("they are twenty", x.fault(1), 20);
        }
    }
}
