/** Promises 2 and 3: the tape. */
final class TapeTest {
    private static final Due DUE = new Due("TapeTest");

    public static void main(String[] args) {
        feedCounts();
        feedStopsAtSixHundred();
        bytesComeHighestFirst();
        allBytesAreBytes();
        endCuts();
        endRefuses();
        endThenFeedGoesOnBehind();
        DUE.finish();
    }

    private static void feedCounts() {
        ThreeDays x = new ThreeDays();
        DUE.due("2: first feed", x.feed(0, 0, 0, 0, 0), 20);
        DUE.due("2: second feed", x.feed(-1, -1, -1, -1, -1), 40);
        DUE.due("2: third feed", x.feed(Integer.MIN_VALUE, Integer.MAX_VALUE, 1, 2, 3), 60);
    }

    private static void feedStopsAtSixHundred() {
        ThreeDays x = new ThreeDays();
        for (int n = 1; n <= 30; n++) {
            DUE.due("2: feed " + n, x.feed(n, n, n, n, n), 20L * n);
        }
        DUE.due("2: feed 31", x.feed(1, 1, 1, 1, 1), -1);
        DUE.due("2: the refused feed did nothing", x.end(601), false);
        DUE.due("2: the tape is still full", x.end(600), true);
        DUE.due("3: 581 bytes", x.end(581), true);
        DUE.due("2: 601 would be too many", x.feed(1, 1, 1, 1, 1), -1);
        DUE.due("2: still 581", x.end(582), false);
        DUE.due("3: 580 bytes", x.end(580), true);
        DUE.due("2: 600 are not too many", x.feed(1, 1, 1, 1, 1), 600);
    }

    private static void bytesComeHighestFirst() {
        ThreeDays x = new ThreeDays();
        // "tota", "l=12", "345;", "    ", "   ?"
        x.feed(0x746F7461, 0x6C3D3132, 0x3334353B, 0x20202020, 0x2020203F);
        DUE.due("2: a byte at the far end", x.rules(), -1);
        DUE.due("2: it stands at 19", x.fault(1), 19);
        x.rider(-1);
        x.feed(0x746F7461, 0x6C3D3132, 0x3334353B, 0x20202020, 0x0A0A0A0A);
        DUE.due("2: the text in order", x.rules(), 1);
        DUE.due("2: its number", x.total(0), 12345);
    }

    private static void allBytesAreBytes() {
        ThreeDays x = new ThreeDays();
        x.feed(0xFF202020, 0, 0, 0, 0);
        x.rules();
        DUE.due("2: byte 255 goes on no text", x.fault(1), 0);
        x.feed(0x20202080, 0, 0, 0, 0);
        x.rules();
        DUE.due("2: byte 128 at 3", x.fault(1), 3);
        x.feed(0x20200000, 0, 0, 0, 0);
        x.rules();
        DUE.due("2: byte 0 at 2", x.fault(1), 2);
    }

    private static void endCuts() {
        ThreeDays x = new ThreeDays();
        DUE.due("3: an empty tape has no bytes", x.end(0), true);
        Due.feed(x, "total=1;total=2;");
        DUE.due("3: the first 8", x.end(8), true);
        DUE.due("3: no longer 9", x.end(9), false);
        DUE.due("3: the same again", x.end(8), true);
        DUE.due("3: the rules of them", x.rules(), 1);
        DUE.due("12: the tape went", x.end(1), false);
    }

    private static void endRefuses() {
        ThreeDays x = new ThreeDays();
        DUE.due("3: one of none", x.end(1), false);
        x.feed(1, 2, 3, 4, 5);
        DUE.due("3: 21 of 20", x.end(21), false);
        DUE.due("3: below 0", x.end(-1), false);
        DUE.due("3: least of all", x.end(Integer.MIN_VALUE), false);
        DUE.due("3: most of all", x.end(Integer.MAX_VALUE), false);
        DUE.due("3: nothing was done", x.feed(1, 2, 3, 4, 5), 40);
    }

    private static void endThenFeedGoesOnBehind() {
        ThreeDays x = new ThreeDays();
        x.rider(-1);
        x.feed(Due.four("tota", 0), Due.four("l=9 ", 0), 0, 0, 0);
        DUE.due("3: seven bytes", x.end(7), true);
        DUE.due("2: behind those on the tape", x.feed(Due.four("8;  ", 0), 0x20202020, 0x20202020, 0x20202020, 0x20202020), 27);
        DUE.due("12: joined", x.rules(), 1);
        DUE.due("16: joined number", x.total(0), 98);
    }
}
