/** Promises 15 to 17: what statements give, totals, and who is out. */
final class SumsTest {
    private static final Due DUE = new Due("SumsTest");
    private static final long NO_SUM = -2000000000000L;
    private static final long LIMIT = 1000000000000L;

    public static void main(String[] args) {
        sumsFromTheLeft();
        divisionGoesDown();
        limits();
        maxAndMin();
        countsInSums();
        givenTells();
        outIfs();
        deepSums();
        wrongOnes();
        DUE.finish();
    }

    private static void sum(String text, long want) {
        ThreeDays x = new ThreeDays();
        x.rider(-1);
        x.report(0, 0, 0, 7, 0);
        x.report(0, 9, 0, 3, 0);
        DUE.due("12: total=" + text + ";", Due.rules(x, "total=" + text + ";"), 1);
        DUE.due("16: total=" + text + ";", x.total(0), want);
        DUE.due("15: total=" + text + ";", x.given(0, 0), want);
    }

    private static void sumsFromTheLeft() {
        sum("0", 0);
        sum("99999", 99999);
        sum("00012", 12);
        sum("1+2*3", 7);
        sum("(1+2)*3", 9);
        sum("10-3-2", 5);
        sum("10-(3-2)", 9);
        sum("10-3+2", 9);
        sum("2*3/4", 1);
        sum("3/4*2", 0);
        sum("7*7/2*2", 48);
        sum("100/7/2", 7);
        sum("1-2*3-4", -9);
        sum("marks-ring", 4);
        sum("marks*marks-ring*ring", 40);
        sum("((marks))*((2+ring))", 35);
        sum("1-10*2+4/2-3", -20);
    }

    private static void divisionGoesDown() {
        sum("7/2", 3);
        sum("(0-7)/2", -4);
        sum("(0-8)/2", -4);
        sum("(0-1)/99999", -1);
        sum("0/5", 0);
        sum("(0-7)/7*7", -7);
        sum("(0-6)/7*7", -7);
        sum("0-6/7", 0);
    }

    private static void limits() {
        sum("99999*99999", 9999800001L);
        sum("10000*10000*10000", LIMIT);
        sum("10000*10000*10000+1", LIMIT);
        sum("10000*10000*10000+1-1", LIMIT - 1);
        sum("10000*10000*10000*99999", LIMIT);
        sum("99999*99999*99999", LIMIT);
        sum("99999*99999*99999-1", LIMIT - 1);
        sum("(0-99999)*99999*99999", -LIMIT);
        sum("(0-99999)*99999*99999-99999", -LIMIT);
        sum("(0-99999)*99999*99999+1", 1 - LIMIT);
        sum("(99999*99999*99999)*(99999*99999*99999)", LIMIT);
        sum("(99999*99999*99999)*(0-99999*99999*99999)", -LIMIT);
        sum("(0-99999*99999*99999)*(0-99999*99999*99999)", LIMIT);
        sum("99999*99999*99999+99999*99999*99999", LIMIT);
        sum("0-99999*99999*99999-99999*99999*99999", -LIMIT);
        sum("99999*99999*99999/3", 333333333333L);
        sum("(0-99999*99999*99999)/3", -333333333334L);
        sum("99999*99999*99999*0", 0);
        sum("0*(99999*99999*99999)", 0);
        sum("(10000*10000*9999+9999*10000+9999)*1", 10000L * 10000 * 9999 + 9999L * 10000 + 9999);
        sum("10000*10000*(0-10000)", -LIMIT);
        sum("10000*10000*(0-10000)-1", -LIMIT);
        sum("10000*10000*(0-10000)+1", 1 - LIMIT);
        sum("10000*10000*5000*2", LIMIT);
        sum("10000*10000*5001*2", LIMIT);
        sum("10000*10000*4999*2", 999800000000L);
        sum("99999*99999*99999/7*7", 999999999999L);
        sum("0-99999*99999*99999/7*7", -999999999999L);
    }

    private static void maxAndMin() {
        sum("max(1,2)", 2);
        sum("max(2,1)", 2);
        sum("min(1,2)", 1);
        sum("min(2,1)", 1);
        sum("max(0-5,0-6)", -5);
        sum("min(0-5,0-6)", -6);
        sum("10-max(1+1,ring)*2", 4);
        sum("min(max(marks,5),max(ring,4))", 4);
        sum("max(marks,8)-min(marks,8)", 1);
    }

    private static void countsInSums() {
        String[] words = {"marks", "ring", "refusals", "falls", "missed", "first", "second", "third", "knocks",
            "looks", "retired", "unseen", "over", "under", "optimum"};
        ThreeDays x = new ThreeDays();
        x.rider(-1);
        x.rider(-1);
        for (int n = 0; n < 9; n++) {
            x.fence(40);
        }
        int[][] reports = {{0, 0, 41}, {9, 0, 97}, {3, 1, 0}, {3, 2, 0}, {3, 2, 0}, {3, 3, 0}, {3, 3, 0}, {3, 3, 0},
            {4, 4, 0}, {4, 4, 0}, {5, 5, 0}, {8, 0, 0}, {8, 0, 0}, {8, 0, 0}, {8, 0, 0}, {8, 0, 0}, {10, 0, 0},
            {10, 0, 0}, {11, 0, 0}, {1, 0, 500}, {2, 0, 600}};
        for (int[] r : reports) {
            x.report(0, r[0], r[1], r[2], 0);
            x.report(1, r[0], r[1], r[2], 0);
        }
        x.report(1, 2, 0, 520, 0);
        for (int what = 0; what < words.length; what++) {
            Due.rules(x, "total=" + words[what] + ";");
            DUE.due("15: " + words[what], x.given(0, 0), x.count(0, what));
            DUE.due("16: " + words[what], x.total(1), x.count(1, what));
        }
        long[] due = {41, 97, 6, 2, 1, 3, 2, 1, 5, 2, 1, 4, 56, 0, 44};
        for (int what = 0; what < due.length; what++) {
            DUE.due("14: " + words[what], x.count(0, what), due[what]);
        }
        DUE.due("14: under of the other", x.count(1, 13), 24);
    }

    private static void givenTells() {
        ThreeDays x = new ThreeDays();
        x.rider(-1);
        x.rider(-1);
        x.report(0, 0, 0, 10, 0);
        x.report(1, 0, 0, 20, 0);
        Due.rules(x, "out if marks > 15; half = marks/2; tie half-100; total = half*3; out if total = 15; tie total;");
        long[][] want = {{0, 5, -95, 15, 1, 15}, {1, 10, -90, 30, 0, 30}};
        for (int rider = 0; rider < 2; rider++) {
            for (int k = 0; k < 6; k++) {
                DUE.due("15: given(" + rider + ", " + k + ")", x.given(rider, k), want[rider][k]);
            }
            DUE.due("16: total, out or not", x.total(rider), want[rider][3]);
            DUE.due("17: out", x.isOut(rider), 1);
        }
        DUE.due("15: no statement 6", x.given(0, 6), NO_SUM);
        x.as(0);
        DUE.due("15: as known at 0", x.given(1, 2), -100);
        DUE.due("17: as known at 0", x.isOut(1), 0);
        StringBuilder text = new StringBuilder("total=0;");
        for (int k = 1; k < 24; k++) {
            text.append("tie ").append(k).append(';');
        }
        Due.rules(x, text.toString());
        for (int k = 0; k < 24; k++) {
            DUE.due("15: statement " + k + " of 24", x.given(0, k), k);
        }
        DUE.due("15: no statement 24", x.given(0, 24), NO_SUM);
    }

    private static void outIfs() {
        String[] signs = {"<", ">", "="};
        int[][] pairs = {{1, 2}, {2, 1}, {2, 2}};
        int[][] want = {{1, 0, 0}, {0, 1, 0}, {0, 0, 1}};
        for (int s = 0; s < 3; s++) {
            for (int p = 0; p < 3; p++) {
                ThreeDays x = new ThreeDays();
                x.rider(-1);
                String text = "total=1;out if " + pairs[p][0] + signs[s] + pairs[p][1] + ";";
                Due.rules(x, text);
                DUE.due("17: " + text, x.isOut(0), want[s][p]);
                DUE.due("15: " + text, x.given(0, 1), want[s][p]);
                Due.rules(x, text + "out if 1>2;");
                DUE.due("17: any of them, first " + text, x.isOut(0), want[s][p]);
                Due.rules(x, "out if 1>2;" + text);
                DUE.due("17: any of them, last " + text, x.isOut(0), want[s][p]);
            }
        }
        ThreeDays x = new ThreeDays();
        x.rider(-1);
        Due.rules(x, "total=1; tie 1;");
        DUE.due("17: a tie or a total of 1 is no out", x.isOut(0), 0);
        Due.rules(x, "total=1; out if looks+retired > 0;");
        x.report(0, 10, 0, 0, 0);
        DUE.due("17: a look", x.isOut(0), 1);
        x.strike(1);
        DUE.due("17: struck", x.isOut(0), 0);
    }

    private static void deepSums() {
        sum("1+2*max(1+2*max(1+2*max(1+2*max(1+2*max(1+2*max(3,5),1),1),1),1),1)", 383);
        sum("1+2*max(1,1+2*max(1,1+2*max(1,1+2*max(1,1+2*max(1,1+2*max(1,1+2*3))))))", 511);
        ThreeDays x = new ThreeDays();
        x.rider(-1);
        String deep = "1+2*max(1,1+2*max(1,1+2*max(1,1+2*max(1,1+2*max(1,1+2*max(1,1+2*3))))))";
        Due.rules(x, "total=1;out if " + deep + "=" + deep + ";out if " + deep + ">510;out if 510>" + deep + ";");
        DUE.due("15: deep on both sides", x.given(0, 1), 1);
        DUE.due("15: deep on the left", x.given(0, 2), 1);
        DUE.due("15: deep on the right", x.given(0, 3), 0);
        StringBuilder wide = new StringBuilder("total=1");
        for (int n = 0; n < 296; n++) {
            wide.append("+1");
        }
        wide.append(';');
        DUE.due("12: 600 bytes", wide.length(), 600);
        DUE.due("12: 600 bytes", Due.rules(x, wide.toString()), 1);
        DUE.due("16: 600 bytes", x.total(0), 297);
        for (int n = 1; n <= 6; n++) {
            Due.rules(x, wide.toString().replace("l=1", "l=" + n));
            DUE.due("16: 600 bytes, over and over", x.total(0), 296 + n);
        }
        StringBuilder many = new StringBuilder();
        for (int n = 0; n < 23; n++) {
            many.append("tie 1;");
        }
        Due.rules(x, many + "total=" + deep + ";");
        DUE.due("16: deep behind 23 others", x.total(0), 511);
        DUE.due("15: the last of the others", x.given(0, 22), 1);
    }

    private static void wrongOnes() {
        ThreeDays x = new ThreeDays();
        x.rider(-1);
        Due.rules(x, "total=5;out if 1=1;");
        int[] numbers = {-1, 1, 24, Integer.MAX_VALUE, Integer.MIN_VALUE};
        for (int rider : numbers) {
            DUE.due("15: rider " + rider, x.given(rider, 0), NO_SUM);
            DUE.due("16: rider " + rider, x.total(rider), NO_SUM);
            DUE.due("17: rider " + rider, x.isOut(rider), -1);
        }
        int[] statements = {-1, 2, 24, -15, Integer.MAX_VALUE, Integer.MIN_VALUE};
        for (int k : statements) {
            DUE.due("15: statement " + k, x.given(0, k), NO_SUM);
        }
    }
}
