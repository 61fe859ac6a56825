/** Terms IV (places, teams, the ring) and promises 18 to 23 at their edges. */
final class StandingEdgesTest {
    private static final Edges EDGES = new Edges("StandingEdgesTest");
    private static final String RULES = "total=marks;out if retired>0;";

    public static void main(String[] args) {
        lesserTotalIsAhead();
        firstTieInWhichTheyDiffer();
        neitherIsAhead();
        oneIsOut();
        placesOfLikeTotals();
        placesOfThoseNotOut();
        ridersThatAre();
        threeLeastTotals();
        eachThatLacks();
        teamsWithoutRiders();
        lesserSumOfTeams();
        likeSumsOfTeams();
        tenThousandWithoutOne();
        lastPlaceFirst();
        greaterNumberFirst();
        ringsThatAre();
        sinceFromNoughtOn();
        sinceAheadOfAllThatIsTold();
        sinceOutIsNought();
        sinceAllIsAsItIs();
        EDGES.finish();
    }

    /** Riders with marks, all of one team; below 0: with as many marks, but retired. */
    private static ThreeDays with(String rules, int team, int... marks) {
        ThreeDays x = new ThreeDays();
        Due.rules(x, rules);
        for (int mark : marks) {
            add(x, team, mark);
        }
        return x;
    }

    private static void add(ThreeDays x, int team, int mark) {
        int rider = x.rider(team);
        x.report(rider, 0, 0, Math.abs(mark), 0);
        if (mark < 0) {
            x.report(rider, 11, 0, 0, 0);
        }
    }

    private static void lesserTotalIsAhead() {
        EDGES.sentence("IV, 18: of two RIDERS who are not OUT the one with the lesser TOTAL is AHEAD");
        String[] rules = {"total=marks;", "total=marks-500;", "total=marks-1000;", "total=(marks-500)*99999*99999;"};
        int[] marks = {0, 1, 499, 500, 501, 999, 1000};
        for (String text : rules) {
            ThreeDays x = with(text, -1, marks);
            for (int a = 0; a < marks.length; a++) {
                for (int b = 0; b < marks.length; b++) {
                    boolean isLimited = text.contains("99999") && (a - 3) * (b - 3) > 0
                        && Math.abs(marks[a] - 500) > 100 && Math.abs(marks[b] - 500) > 100;
                    int want = isLimited ? 0 : Integer.compare(a, b);
                    EDGES.due(text + " " + marks[a] + " against " + marks[b], x.against(a, b), want);
                }
            }
        }
    }

    private static void firstTieInWhichTheyDiffer() {
        EDGES.sentence("IV: if they are alike the one with the lesser SUM of the first tie in which they differ");
        String rules = "total=marks/1000;tie ring;tie knocks;tie 0-looks;";
        // Ring, knocks, looks of two riders, and how the first one stands.
        int[][] rows = {{0, 0, 0, 0, 0, 0, 0}, {1, 0, 0, 2, 0, 0, -1}, {2, 0, 0, 1, 5, 0, 1}, {1, 3, 0, 1, 2, 0, 1},
            {1, 2, 0, 1, 3, 9, -1}, {1, 2, 1, 1, 2, 2, 1}, {1, 2, 2, 1, 2, 1, -1}, {1, 2, 3, 1, 2, 3, 0}};
        for (int[] row : rows) {
            ThreeDays x = with(rules, -1, 1100, 1900);
            for (int r = 0; r < 2; r++) {
                x.report(r, 9, 0, row[3 * r], 0);
                for (int n = 0; n < row[3 * r + 1]; n++) {
                    x.report(r, 8, 0, 0, 0);
                }
                for (int n = 0; n < row[3 * r + 2]; n++) {
                    x.report(r, 10, 0, 0, 0);
                }
            }
            EDGES.due("the first one", x.against(0, 1), row[6]);
            EDGES.due("the other one", x.against(1, 0), -row[6]);
            EDGES.due("place of the first one", x.place(0), row[6] > 0 ? 2 : 1);
            EDGES.due("place of the other one", x.place(1), row[6] < 0 ? 2 : 1);
            EDGES.due("ring", x.ring(0), row[6] > 0 ? 0 : 1);
        }
        ThreeDays x = with("total=marks/1000;" + "tie 1;".repeat(22) + "tie marks;", -1, 1001, 1000);
        EDGES.due("the last of 23 ties", x.against(0, 1), 1);
        ThreeDays ahead = with("tie 0-marks;total=marks/1000;", -1, 1001, 1000, 2000);
        EDGES.due("a tie ahead of total", ahead.against(0, 1), -1);
        EDGES.due("but total goes first", ahead.against(0, 2), -1);
    }

    private static void neitherIsAhead() {
        EDGES.sentence("18: 0 neither (also of one with itself)");
        ThreeDays x = with(RULES, -1, 5, 5, 6);
        EDGES.due("alike", x.against(0, 1), 0);
        EDGES.due("alike, the other way", x.against(1, 0), 0);
        for (int r = 0; r < 3; r++) {
            EDGES.due("itself, " + r, x.against(r, r), 0);
        }
        EDGES.due("a step apart", x.against(0, 2), -1);
        ThreeDays given = with("total=0;x=marks;out if marks=1;tie 3;", -1, 7, 8);
        EDGES.due("what is given does not part, nor like ties", given.against(0, 1), 0);
    }

    private static void oneIsOut() {
        EDGES.sentence("18: -2 one is OUT, or there are none such");
        ThreeDays x = with(RULES, -1, 5, -5, 6, -6);
        EDGES.due("out against one who is not", x.against(1, 0), -2);
        EDGES.due("not out against one who is", x.against(0, 1), -2);
        EDGES.due("both out", x.against(1, 3), -2);
        EDGES.due("out with itself", x.against(1, 1), -2);
        EDGES.due("neither out", x.against(0, 2), -1);
        int[] wrong = {-1, 4, 23, 24, Integer.MIN_VALUE, Integer.MAX_VALUE};
        for (int r : wrong) {
            EDGES.due(r + " against 0", x.against(r, 0), -2);
            EDGES.due("0 against " + r, x.against(0, r), -2);
            EDGES.due("1 against " + r, x.against(1, r), -2);
            EDGES.due(r + " against itself", x.against(r, r), -2);
        }
        EDGES.answers("0 with itself of nobody", Edges::empty, y -> y.against(0, 0), -2);
        EDGES.answers("the 24th with itself", y -> Edges.riders(y, 24), y -> y.against(23, 23), 0);
        EDGES.answers("a 25th", y -> Edges.riders(y, 24), y -> y.against(23, 24), -2);
    }

    private static void places(String name, ThreeDays x, int... want) {
        for (int r = 0; r < want.length; r++) {
            EDGES.due(name + ", place(" + r + ")", x.place(r), want[r]);
        }
    }

    private static void placesOfLikeTotals() {
        EDGES.sentence("IV, 19: PLACE: 1 more than how many are AHEAD");
        places("one alone", with(RULES, -1, 9999), 1);
        places("all apart", with(RULES, -1, 3, 1, 2), 3, 1, 2);
        places("two alike ahead", with(RULES, -1, 1, 2, 1), 1, 3, 1);
        places("two alike behind", with(RULES, -1, 2, 1, 2), 2, 1, 2);
        places("all alike", with(RULES, -1, 4, 4, 4, 4), 1, 1, 1, 1);
        places("below 0", with("total=5-marks;", -1, 4, 5, 6, 6), 4, 3, 1, 1);
        ThreeDays all = new ThreeDays();
        Due.rules(all, RULES);
        for (int n = 0; n < 24; n++) {
            add(all, n % 6, 100 - n);
        }
        for (int n = 0; n < 24; n++) {
            EDGES.due("place of 24, " + n, all.place(n), 24 - n);
        }
    }

    private static void placesOfThoseNotOut() {
        EDGES.sentence("IV, 19: (of those not OUT); 0 if OUT");
        places("the first one out", with(RULES, -1, -1, 2, 3), 0, 1, 2);
        places("one between out", with(RULES, -1, 1, -2, 3), 1, 0, 2);
        places("the last one out", with(RULES, -1, 1, 2, -3), 1, 2, 0);
        places("one alike out", with(RULES, -1, 2, -2, 2, 3), 1, 0, 1, 3);
        places("all out", with(RULES, -1, -1, -2), 0, 0);
        ThreeDays x = with(RULES, -1, -1, 2);
        x.strike(2);
        places("the report struck", x, 1, 2);
        x.as(2);
        places("as known ahead of it", x, 0, 1);
        x.as(0);
        places("as known at no report", x, 1, 1);
    }

    private static void ridersThatAre() {
        EDGES.sentence("19, 23: NONE if there is none such");
        EDGES.range("place", Edges::busy, (x, rider) -> x.place(rider), 0, 5, -1);
        EDGES.range("place of 24", x -> Edges.riders(x, 24), (x, rider) -> x.place(rider), 0, 23, -1);
        int[] wrong = {-1, 6, 23, 24, Integer.MIN_VALUE, Integer.MAX_VALUE};
        for (int rider : wrong) {
            EDGES.refused("since(" + rider + ")", Edges::busy, x -> x.since(rider), -1);
        }
        EDGES.answers("place(0) of nobody", Edges::empty, x -> x.place(0), -1);
        EDGES.answers("since(0) of nobody", Edges::empty, x -> x.since(0), -1);
    }

    private static void threeLeastTotals() {
        EDGES.sentence("IV, 20: its SUM is that of the three least TOTALS of its RIDERS who are not OUT");
        EDGES.due("three", with(RULES, 0, 10, 20, 40).team(0), 70);
        int[][] fours = {{80, 10, 20, 40}, {10, 80, 20, 40}, {10, 20, 80, 40}, {10, 20, 40, 80}};
        for (int[] four : fours) {
            EDGES.due("four, the greatest is left out", with(RULES, 0, four).team(0), 70);
        }
        EDGES.due("two alike at the end", with(RULES, 0, 10, 20, 40, 40).team(0), 70);
        EDGES.due("all alike", with(RULES, 0, 7, 7, 7, 7).team(0), 21);
        EDGES.due("one of four out", with(RULES, 0, 80, 10, -20, 40).team(0), 130);
        EDGES.due("below 0", with("total=5-marks;", 0, 6, 7, 8, 5).team(0), -6);
        EDGES.due("all below 0", with("total=0-marks;", 0, 1, 2, 3, 4).team(0), -9);
        EDGES.due("above 10000", with("total=marks*10;", 0, 2000, 3000, 4000, 5000).team(0), 90000);
        EDGES.due("at the limit", with("total=marks*99999*99999;", 0, 9999, 9999, 9999, 9999).team(0), 3000000000000L);
        EDGES.due("at the limit below", with("total=0-marks*99999*99999;", 0, 9999, 9999, 9999).team(0), -3000000000000L);
        ThreeDays beside = with(RULES, 3, 1, 2, 4);
        add(beside, -1, 0);
        add(beside, 2, 0);
        EDGES.due("riders of none and of others do not count", beside.team(3), 7);
    }

    private static void eachThatLacks() {
        EDGES.sentence("IV, 20: 10000 for each that lacks");
        EDGES.due("one rider", with(RULES, 0, 7).team(0), 20007);
        EDGES.due("two riders", with(RULES, 0, 7, 8).team(0), 10015);
        EDGES.due("three riders", with(RULES, 0, 7, 8, 9).team(0), 24);
        EDGES.due("three riders, one out", with(RULES, 0, 7, -8, 9).team(0), 10016);
        EDGES.due("four riders, one out", with(RULES, 0, 7, -8, 9, 1).team(0), 17);
        EDGES.due("four riders, two out", with(RULES, 0, 7, -8, 9, -1).team(0), 10016);
        EDGES.due("four riders, three out", with(RULES, 0, -7, -8, 9, -1).team(0), 20009);
        EDGES.due("four riders, all out", with(RULES, 0, -7, -8, -9, -1).team(0), 30000);
        EDGES.due("one rider, out", with(RULES, 0, -7).team(0), 30000);
        EDGES.due("beside more than 10000", with("total=marks*2;", 0, 9000).team(0), 38000);
        EDGES.due("beside what is below 0", with("total=0-marks;", 0, 9000).team(0), 11000);
        EDGES.due("without rules", ofTeamOne(4).team(1), 0);
        EDGES.due("without rules, two lack", ofTeamOne(1).team(1), 20000);
    }

    private static ThreeDays ofTeamOne(int riders) {
        ThreeDays x = new ThreeDays();
        for (int n = 0; n < riders; n++) {
            x.rider(1);
        }
        return x;
    }

    private static void teamsWithoutRiders() {
        EDGES.sentence("20, 21: -1, NONE if it has no RIDERS, or there is none such");
        ThreeDays x = with(RULES, 4, 5);
        add(x, -1, 6);
        int[] wrong = {-2, -1, 0, 1, 2, 3, 5, 6, 7, Integer.MIN_VALUE, Integer.MAX_VALUE};
        for (int team : wrong) {
            EDGES.due("team(" + team + ")", x.team(team), -1);
            EDGES.due("teamPlace(" + team + ")", x.teamPlace(team), -1);
            EDGES.answers("team(" + team + ") of a new one", Edges::empty, y -> y.team(team), -1);
            EDGES.answers("teamPlace(" + team + ") of a new one", Edges::empty, y -> y.teamPlace(team), -1);
        }
        EDGES.due("team(4)", x.team(4), 20005);
        EDGES.due("teamPlace(4)", x.teamPlace(4), 1);
        x.as(0);
        EDGES.due("a team has its riders as known at any act", x.team(4), 20000);
        EDGES.due("the others have none", x.team(3), -1);
    }

    private static ThreeDays teams(String rules, int[]... marks) {
        ThreeDays x = new ThreeDays();
        Due.rules(x, rules);
        for (int team = 0; team < marks.length; team++) {
            for (int mark : marks[team]) {
                add(x, team, mark);
            }
        }
        return x;
    }

    private static void teamPlaces(String name, ThreeDays x, int... want) {
        for (int team = 0; team < 6; team++) {
            EDGES.due(name + ", teamPlace(" + team + ")", x.teamPlace(team), team < want.length ? want[team] : -1);
        }
    }

    private static void lesserSumOfTeams() {
        EDGES.sentence("IV, 21: PLACE: 1 more than how many TEAMS have a lesser SUM");
        teamPlaces("one alone", teams(RULES, new int[] {9, 9, 9}), 1);
        teamPlaces("a step apart", teams(RULES, new int[] {1, 2, 4}, new int[] {1, 2, 3}), 2, 1);
        teamPlaces("six", teams(RULES, new int[] {1, 1, 9}, new int[] {1, 1, 8}, new int[] {1, 1, 7},
            new int[] {1, 1, 6}, new int[] {1, 1, 5}, new int[] {1, 1, 4}), 6, 5, 4, 3, 2, 1);
        teamPlaces("a team without riders is not ahead", teams(RULES, new int[0], new int[] {9}), -1, 1);
        teamPlaces("not by the least total", teams(RULES, new int[] {0, 9, 9}, new int[] {5, 5, 5}), 2, 1);
        teamPlaces("a full team of more than 10000 each is behind one that lacks",
            teams("total=marks*2;", new int[] {6000, 6000, 6000}, new int[] {5000}), 2, 1);
        teamPlaces("sums below 0", teams("total=0-marks;", new int[] {1, 1, 1}, new int[] {0, 1, 1}), 1, 2);
        teamPlaces("a sum of -1 is one", teams("total=0-marks;", new int[] {0, 0, 1}, new int[] {0, 0, 0}), 1, 2);
    }

    private static void likeSumsOfTeams() {
        EDGES.sentence("IV, 21: or a like one and a lesser least TOTAL");
        teamPlaces("lesser least", teams(RULES, new int[] {4, 5, 6}, new int[] {3, 6, 6}), 2, 1);
        teamPlaces("like least too", teams(RULES, new int[] {3, 5, 7}, new int[] {3, 6, 6}), 1, 1);
        teamPlaces("three of them", teams(RULES, new int[] {5, 5, 5}, new int[] {4, 5, 6}, new int[] {4, 4, 7}), 3, 1, 1);
        teamPlaces("the fourth does not count", teams(RULES, new int[] {5, 5, 5, 9}, new int[] {5, 5, 5}), 1, 1);
        teamPlaces("one who is out is not the least", teams(RULES, new int[] {-1, 5, 5, 5}, new int[] {5, 5, 5}), 1, 1);
        teamPlaces("one of none is not the least", withOneOfNone(), 1, 1);
        teamPlaces("below 0", teams("total=10-marks;", new int[] {11, 9, 10}, new int[] {12, 9, 9}), 2, 1);
        teamPlaces("ties do not part teams", teams("total=5;tie marks;", new int[] {1, 1, 1}, new int[] {2, 2, 2}), 1, 1);
    }

    private static ThreeDays withOneOfNone() {
        ThreeDays x = teams(RULES, new int[] {5, 5, 5}, new int[] {5, 5, 5});
        add(x, -1, 0);
        return x;
    }

    private static void tenThousandWithoutOne() {
        EDGES.sentence("IV, 21: least TOTAL (10000 without one)");
        // The sum is 30000 in both: all of one lack, and the other has one of so much and the rest of the rest.
        String rules = "total=marks*2;out if retired>0;";
        teamPlaces("9998", teams(rules, new int[] {-1}, new int[] {4999, 5000, 5001}), 2, 1);
        teamPlaces("10000", teams(rules, new int[] {-1}, new int[] {5000, 5000, 5000}), 1, 1);
        teamPlaces("10000, the others lack", teams(rules, new int[] {-1, -2}, new int[] {5000}), 1, 1);
        teamPlaces("9999 of a lesser sum", teams(RULES, new int[] {-1}, new int[] {9999}), 2, 1);
        teamPlaces("10000 alone", teams(RULES, new int[] {-1}, new int[] {10000}), 1, 1);
        teamPlaces("10001 of a greater sum", teams("total=marks+1;out if retired>0;", new int[] {-1}, new int[] {10000}), 1, 2);
        teamPlaces("all out in both", teams(RULES, new int[] {-1}, new int[] {-1, -2, -3}), 1, 1);
        teamPlaces("above 10000 in both", teams("total=marks*2;", new int[] {5500, 6000, 6500}, new int[] {5400, 6000, 6600}), 2, 1);
    }

    private static void ring(String name, ThreeDays x, int... want) {
        for (int i = 0; i < want.length; i++) {
            EDGES.due(name + ", ring(" + i + ")", x.ring(i), want[i]);
        }
        int[] beyond = {want.length, want.length + 1, -1, 24, Integer.MIN_VALUE, Integer.MAX_VALUE};
        for (int i : beyond) {
            EDGES.due(name + ", ring(" + i + ")", x.ring(i), -1);
        }
    }

    private static void lastPlaceFirst() {
        EDGES.sentence("IV, 22: THE RING: all RIDERS who are not OUT, the last PLACE first");
        ring("one", with(RULES, -1, 5), 0);
        ring("three", with(RULES, -1, 2, 3, 1), 1, 0, 2);
        ring("one out", with(RULES, -1, 2, -3, 1), 0, 2);
        ring("the first out", with(RULES, -1, -2, 3, 1), 1, 2);
        ring("the last out", with(RULES, -1, 2, 3, -1), 1, 0);
        ring("all out", with(RULES, -1, -2, -3, -1));
        ring("nobody", new ThreeDays());
    }

    private static void greaterNumberFirst() {
        EDGES.sentence("IV, 22: of like PLACES the greater number first");
        ring("two alike", with(RULES, -1, 5, 5), 1, 0);
        ring("alike ahead and behind", with(RULES, -1, 5, 9, 5, 9), 3, 1, 2, 0);
        ring("alike, one of them out", with(RULES, -1, 5, -5, 5), 2, 0);
        ring("a tie parts them", with("total=0;tie marks;", -1, 5, 4, 5), 2, 0, 1);
        ThreeDays all = new ThreeDays();
        Edges.riders(all, 24);
        for (int i = 0; i < 24; i++) {
            EDGES.due("24 alike, ring(" + i + ")", all.ring(i), 23 - i);
        }
        EDGES.due("24 alike, ring(24)", all.ring(24), -1);
    }

    private static void ringsThatAre() {
        EDGES.sentence("22: RIDER i of THE RING; NONE if there is none such");
        EDGES.range("ring", Edges::busy, (x, i) -> x.ring(i), 0, 4, -1);
        EDGES.range("ring of 24", x -> Edges.riders(x, 24), (x, i) -> x.ring(i), 0, 23, -1);
    }

    private static void sinceFromNoughtOn() {
        EDGES.sentence("23: the last ACT, from 0 on, .. as known at which a RIDER had another PLACE; NONE if there is none");
        ThreeDays x = new ThreeDays();
        Due.rules(x, RULES);
        Edges.riders(x, 2);
        EDGES.due("no act", x.since(0), -1);
        x.report(0, 8, 0, 0, 0);
        EDGES.due("the same place at 0", x.since(0), -1);
        x.report(0, 0, 0, 5, 0);
        EDGES.due("another at 1", x.since(0), 1);
        EDGES.due("the other's is the same", x.since(1), -1);
        x.report(1, 0, 0, 5, 0);
        EDGES.due("alike: another at 2", x.since(0), 2);
        EDGES.due("alike: the same at 2, 1, 0", x.since(1), -1);
        x.report(1, 0, 0, 6, 0);
        EDGES.due("the other falls back", x.since(1), 3);
        EDGES.due("the first keeps his place at 3", x.since(0), 2);
        ThreeDays y = new ThreeDays();
        Due.rules(y, RULES);
        Edges.riders(y, 2);
        y.report(0, 0, 0, 5, 0);
        EDGES.due("another at 0", y.since(0), 0);
        for (int n = 0; n < 399; n++) {
            y.report(1, 8, 0, 0, 0);
        }
        EDGES.due("another at 0, 400 acts", y.since(0), 0);
        EDGES.due("none, 400 acts", y.since(1), -1);
        y.as(399);
        EDGES.due("told at 399", y.since(0), 0);
    }

    private static void sinceAheadOfAllThatIsTold() {
        EDGES.sentence("23: ahead of that as known at which all is told");
        ThreeDays x = new ThreeDays();
        Due.rules(x, RULES);
        Edges.riders(x, 2);
        x.report(0, 0, 0, 5, 0);
        x.strike(1);
        x.report(0, 0, 0, 6, 0);
        x.report(1, 8, 0, 0, 0);
        int[] want = {-1, 0, 1, 2, 2};
        for (int act = 0; act <= 4; act++) {
            x.as(act);
            EDGES.due("told at " + act, x.since(0), want[act]);
            EDGES.due("told at " + act + ", the other", x.since(1), -1);
        }
        x.as(-1);
        EDGES.due("told at the last one", x.since(0), 2);
        x.strike(3);
        EDGES.due("and at the last one then", x.since(0), 4);
        EDGES.due("nothing is told otherwise", x.all(5), 5);
    }

    private static void sinceOutIsNought() {
        EDGES.sentence("23: another PLACE (0 if OUT) than now");
        ThreeDays x = with(RULES, -1, 5, 6);
        EDGES.due("second since 1", x.since(1), 1);
        x.report(1, 11, 0, 0, 0);
        EDGES.due("out since 2", x.since(1), 2);
        x.report(1, 11, 0, 0, 0);
        EDGES.due("still out", x.since(1), 2);
        x.strike(3);
        EDGES.due("out by the other report", x.since(1), 2);
        x.strike(4);
        EDGES.due("not out since 5", x.since(1), 5);
        Due.rules(x, "total=0;out if 1=1;");
        EDGES.due("out at all acts", x.since(1), -1);
    }

    private static void sinceAllIsAsItIs() {
        EDGES.sentence("23: (RIDERS, THE COURSE, clocks, RULES as they are.)");
        ThreeDays x = new ThreeDays();
        x.rider(-1);
        x.fence(100);
        x.report(0, 3, 0, 0, 0);
        x.report(0, 1, 0, 700, 0);
        Due.rules(x, "total=refusals;");
        EDGES.due("alone always first", x.since(0), -1);
        x.rider(-1);
        EDGES.due("one came later, and is at act 0 too", x.since(0), 0);
        x.out(0, 700);
        EDGES.due("the fence taken out: second at 1 alone", x.since(0), 1);
        x.clock(0, 1);
        EDGES.due("the clock put right: second from 1 on", x.since(0), 0);
        x.clock(0, -600);
        EDGES.due("the clock put wrong", x.since(0), 1);
        Due.rules(x, "total=0-refusals;");
        EDGES.due("ahead at 1, alike now", x.since(0), -1);
        EDGES.due("the other one was second at 1", x.since(1), 1);
        x.fence(100);
        x.report(1, 6, 0, 0, 0);
        Due.rules(x, "total=unseen;");
        EDGES.due("a fence more at all acts", x.since(1), 2);
        EDGES.due("the other one is first at all acts", x.since(0), -1);
    }
}
