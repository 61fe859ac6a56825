/** Promises 18 to 22: how riders and teams stand, and the ring. */
final class StandingTest {
    private static final Due DUE = new Due("StandingTest");

    public static void main(String[] args) {
        lesserTotalIsAhead();
        tiesPart();
        outIsNotPlaced();
        wrongRiders();
        teamsOfThreeBest();
        teamsThatLack();
        teamsWithGreatTotals();
        likeTeams();
        ringGoesInReverse();
        wrongRing();
        DUE.finish();
    }

    private static ThreeDays withMarks(String rules, int team, int... marks) {
        ThreeDays x = new ThreeDays();
        Due.rules(x, rules);
        for (int n = 0; n < marks.length; n++) {
            x.rider(team);
            x.report(n, 0, 0, marks[n], 0);
        }
        return x;
    }

    private static void lesserTotalIsAhead() {
        ThreeDays x = withMarks("total=marks;", -1, 30, 10, 20, 10);
        int[] places = {4, 1, 3, 1};
        for (int n = 0; n < 4; n++) {
            DUE.due("19: place(" + n + ")", x.place(n), places[n]);
            DUE.due("18: against(" + n + ", itself)", x.against(n, n), 0);
        }
        DUE.due("18: 0 against 1", x.against(0, 1), 1);
        DUE.due("18: 1 against 0", x.against(1, 0), -1);
        DUE.due("18: 1 against 3", x.against(1, 3), 0);
        ThreeDays y = withMarks("total=0-marks*99999*99999;", -1, 10000, 0, 9999);
        DUE.due("19: far below 0, limited", y.place(0), 1);
        DUE.due("19: as limited", y.place(2), 1);
        DUE.due("19: 0 is behind", y.place(1), 3);
        ThreeDays z = withMarks("tie marks;total=0;", -1, 3, 2);
        DUE.due("18: total alike", z.against(0, 1), 1);
        ThreeDays none = new ThreeDays();
        none.rider(0);
        none.rider(0);
        none.report(0, 0, 0, 5, 0);
        DUE.due("18: without rules alike", none.against(0, 1), 0);
        DUE.due("19: without rules first", none.place(0), 1);
        DUE.due("19: without rules first too", none.place(1), 1);
    }

    private static void tiesPart() {
        ThreeDays x = withMarks("total=marks/10; tie ring; tie 0-marks;", -1, 11, 12, 13, 21);
        DUE.due("18: the second tie parts", x.against(0, 1), 1);
        x.report(0, 9, 0, 5, 0);
        x.report(1, 9, 0, 6, 0);
        DUE.due("18: the first tie parts", x.against(0, 1), -1);
        DUE.due("18: ring 0 is less", x.against(0, 2), 1);
        DUE.due("18: total goes first", x.against(1, 3), -1);
        DUE.due("19: place of 2", x.place(2), 1);
        DUE.due("19: place of 0", x.place(0), 2);
        DUE.due("19: place of 1", x.place(1), 3);
        DUE.due("19: place of 3", x.place(3), 4);
        Due.rules(x, "total=0; tie marks/100;");
        DUE.due("18: no tie parts", x.against(0, 3), 0);
        DUE.due("19: all first", x.place(3), 1);
        Due.rules(x, "total=0; x=marks; out if marks<0;");
        DUE.due("18: only ties part", x.against(0, 3), 0);
        Due.rules(x, "out if marks=21;total=0;");
        DUE.due("18: an out if does not part", x.against(0, 1), 0);
    }

    private static void outIsNotPlaced() {
        ThreeDays x = withMarks("total=marks; out if retired>0;", -1, 30, 10, 20);
        x.report(1, 11, 0, 0, 0);
        DUE.due("19: out", x.place(1), 0);
        DUE.due("19: not behind one that is out", x.place(2), 1);
        DUE.due("19: second", x.place(0), 2);
        DUE.due("18: against one that is out", x.against(0, 1), -2);
        DUE.due("18: one that is out against", x.against(1, 0), -2);
        DUE.due("18: out against itself", x.against(1, 1), -2);
        x.strike(4);
        DUE.due("19: not out any more", x.place(1), 1);
        DUE.due("19: behind again", x.place(2), 2);
    }

    private static void wrongRiders() {
        ThreeDays x = withMarks("total=marks;", -1, 30, 10);
        int[] wrong = {-1, 2, 24, Integer.MAX_VALUE, Integer.MIN_VALUE};
        for (int rider : wrong) {
            DUE.due("18: against(" + rider + ", 0)", x.against(rider, 0), -2);
            DUE.due("18: against(0, " + rider + ")", x.against(0, rider), -2);
            DUE.due("18: against(" + rider + ", itself)", x.against(rider, rider), -2);
            DUE.due("19: place(" + rider + ")", x.place(rider), -1);
        }
    }

    private static void teamsOfThreeBest() {
        ThreeDays x = withMarks("total=marks; out if retired>0;", 2, 40, 10, 30, 20);
        DUE.due("20: the three least", x.team(2), 60);
        x.report(1, 11, 0, 0, 0);
        DUE.due("20: without the one that is out", x.team(2), 90);
        x.report(2, 11, 0, 0, 0);
        DUE.due("20: one lacks", x.team(2), 10060);
        x.report(0, 11, 0, 0, 0);
        DUE.due("20: two lack", x.team(2), 20020);
        x.report(3, 11, 0, 0, 0);
        DUE.due("20: all lack", x.team(2), 30000);
        DUE.due("21: a team with all out is placed", x.teamPlace(2), 1);
        x.rider(-1);
        x.rider(-1);
        DUE.due("20: of no team", x.team(-1), -1);
        DUE.due("21: of no team", x.teamPlace(-1), -1);
        DUE.due("20: a team without riders", x.team(3), -1);
        DUE.due("21: a team without riders", x.teamPlace(3), -1);
        DUE.due("20: no team 6", x.team(6), -1);
        DUE.due("21: no team 6", x.teamPlace(6), -1);
        ThreeDays y = withMarks("total=0-marks;", 0, 1, 2, 3, 4);
        DUE.due("20: below 0 too", y.team(0), -9);
    }

    private static void teamsThatLack() {
        ThreeDays x = new ThreeDays();
        Due.rules(x, "total=marks; out if retired>0;");
        int[] teams = {0, 1, 1, 2, 2, 2, 3, -1};
        for (int n = 0; n < teams.length; n++) {
            x.rider(teams[n]);
            x.report(n, 0, 0, 100 * (n + 1), 0);
        }
        x.report(6, 11, 0, 0, 0);
        long[] sums = {20100, 10500, 1500, 30000, -1, -1};
        int[] places = {3, 2, 1, 4, -1, -1};
        for (int team = 0; team < 6; team++) {
            DUE.due("20: team " + team, x.team(team), sums[team]);
            DUE.due("21: team " + team, x.teamPlace(team), places[team]);
        }
        Due.rules(x, "total=marks+20000;");
        DUE.due("20: 10000 for one that lacks, however much the others have", x.team(1), 20200 + 20300 + 10000);
        DUE.due("21: fewer riders can be ahead then", x.teamPlace(0), 1);
    }

    private static void teamsWithGreatTotals() {
        ThreeDays x = withMarks("total=(marks-5)*99999*99999*99999;", 5, 9, 9, 9, 9);
        DUE.due("20: a sum has no limit", x.team(5), 3000000000000L);
        ThreeDays y = withMarks("total=(marks-5)*99999*99999*99999;", 5, 1, 1, 1, 9);
        DUE.due("20: nor below 0", y.team(5), -3000000000000L);
        ThreeDays z = withMarks("total=0-marks;", 1, 0, 0, 1);
        DUE.due("20: -1 can be a sum", z.team(1), -1);
        DUE.due("21: and is placed", z.teamPlace(1), 1);
    }

    private static void likeTeams() {
        ThreeDays x = new ThreeDays();
        Due.rules(x, "total=marks; out if retired>0;");
        int[][] marks = {{10, 20, 30}, {5, 25, 30}, {5, 15, 40}, {20, 20, 20}};
        for (int team = 0; team < 4; team++) {
            for (int n = 0; n < 3; n++) {
                x.report(x.rider(team), 0, 0, marks[team][n], 0);
            }
        }
        int[] places = {3, 1, 1, 4};
        for (int team = 0; team < 4; team++) {
            DUE.due("20: all alike", x.team(team), 60);
            DUE.due("21: the lesser least is ahead, team " + team, x.teamPlace(team), places[team]);
        }
        ThreeDays y = new ThreeDays();
        Due.rules(y, "total=marks; out if retired>0;");
        for (int team = 0; team < 3; team++) {
            y.rider(team);
        }
        y.report(0, 11, 0, 0, 0);
        y.report(1, 0, 0, 10000, 0);
        y.report(2, 0, 0, 9999, 0);
        DUE.due("20: all out", y.team(0), 30000);
        DUE.due("20: like that", y.team(1), 30000);
        DUE.due("21: 10000 without one", y.teamPlace(0), 2);
        DUE.due("21: like that", y.teamPlace(1), 2);
        DUE.due("21: ahead", y.teamPlace(2), 1);
        ThreeDays z = new ThreeDays();
        Due.rules(z, "total=marks*2; out if retired>0;");
        int[] of = {0, 0, 0, 1, 1, 1, 1};
        int[] each = {5000, 5000, 5000, 10000, 4000, 6000, 5000};
        for (int n = 0; n < of.length; n++) {
            z.rider(of[n]);
            z.report(n, 0, 0, each[n], 0);
        }
        z.report(3, 11, 0, 0, 0);
        DUE.due("20: like sums", z.team(0), 30000);
        DUE.due("20: like sums", z.team(1), 30000);
        DUE.due("21: least 8000", z.teamPlace(1), 1);
        DUE.due("21: least 10000", z.teamPlace(0), 2);
        ThreeDays far = new ThreeDays();
        Due.rules(far, "total=marks*10;");
        int[] tens = {1100, 1200, 1300, 1050, 1200, 1350};
        for (int n = 0; n < tens.length; n++) {
            far.rider(n / 3);
            far.report(n, 0, 0, tens[n], 0);
        }
        DUE.due("21: both least are above 10000, the greater", far.teamPlace(0), 2);
        DUE.due("21: both least are above 10000, the lesser", far.teamPlace(1), 1);
        z.report(4, 11, 0, 0, 0);
        z.report(5, 11, 0, 0, 0);
        z.report(6, 0, 0, 5000, 0);
        DUE.due("21: both least 10000", z.teamPlace(0), 1);
        DUE.due("21: both least 10000", z.teamPlace(1), 1);
    }

    private static void ringGoesInReverse() {
        ThreeDays x = withMarks("total=marks; out if retired>0; tie ring;", -1, 30, 10, 20, 10, 30, 50, 10);
        x.report(6, 9, 0, 1, 0);
        x.report(5, 11, 0, 0, 0);
        int[] due = {4, 0, 2, 6, 3, 1, -1};
        for (int i = 0; i < due.length; i++) {
            DUE.due("22: ring(" + i + ")", x.ring(i), due[i]);
        }
        x.as(0);
        for (int i = 0; i < 7; i++) {
            DUE.due("22: as known at 0 all alike, the greater number first", x.ring(i), 6 - i);
        }
        ThreeDays all = new ThreeDays();
        Due.rules(all, "total=0-marks;");
        for (int n = 0; n < 24; n++) {
            all.rider(n % 6);
            all.report(n, 0, 0, n, 0);
        }
        for (int i = 0; i < 24; i++) {
            DUE.due("22: ring(" + i + ") of 24", all.ring(i), i);
        }
        DUE.due("22: no ring(24)", all.ring(24), -1);
    }

    private static void wrongRing() {
        ThreeDays x = withMarks("total=marks;out if looks>0;", -1, 1, 2);
        int[] wrong = {-1, 2, 24, Integer.MAX_VALUE, Integer.MIN_VALUE};
        for (int i : wrong) {
            DUE.due("22: ring(" + i + ")", x.ring(i), -1);
        }
        x.report(0, 10, 0, 0, 0);
        x.report(1, 10, 0, 0, 0);
        DUE.due("22: all are out", x.ring(0), -1);
    }
}
