/** Terms I (riders, the course, posts) and promises 4 to 8 at their edges. */
final class CourseEdgesTest {
    private static final Edges EDGES = new Edges("CourseEdgesTest");
    private static final int REFUSALS = 2;
    private static final int UNSEEN = 11;
    private static final int START = 15;
    private static final int FINISH = 16;
    private static final int TIME = 17;

    public static void main(String[] args) {
        twentyFourRiders();
        teamsNoughtToFive();
        fourOfOne();
        thirtyFences();
        metresOfAFence();
        endMetres();
        speeds();
        atFirst();
        optimumIsTheLeast();
        postsThatAre();
        secondsAhead();
        aheadAtTheEdges();
        takenOutFences();
        takenOutSeconds();
        beforeThatSecond();
        withoutAStart();
        putRightAcrossTheDay();
        metresStay();
        EDGES.finish();
    }

    private static void twentyFourRiders() {
        EDGES.sentence("I, 4: RIDERS, numbered from 0 on as they came (24 at most)");
        ThreeDays x = new ThreeDays();
        for (int n = 0; n < 24; n++) {
            EDGES.due("all(0) ahead of " + n, x.all(0), n);
            EDGES.due("rider " + n, x.rider(n % 7 - 1), n);
        }
        EDGES.due("all(0) of all", x.all(0), 24);
        for (int team = -1; team <= 5; team++) {
            int t = team;
            EDGES.answers("the 24th, of " + t, y -> Edges.riders(y, 23), y -> y.rider(t), 23);
            EDGES.refused("a 25th, of " + t, y -> Edges.riders(y, 24), y -> y.rider(t), -1);
        }
        EDGES.due("the number 24 is nobody's", x.place(24), -1);
        EDGES.due("the number 23 is somebody's", x.place(23), 1);
    }

    private static void teamsNoughtToFive() {
        EDGES.sentence("I, 4: each of a TEAM (0 .. 5) or of none; NONE if no such TEAM");
        EDGES.range("rider, team", Edges::empty, (x, team) -> x.rider(team), -1, 5, -1);
        EDGES.range("rider, team, in a busy one", Edges::busy, (x, team) -> x.rider(team), -1, 5, -1);
        for (int team = 0; team <= 5; team++) {
            ThreeDays x = new ThreeDays();
            x.rider(team);
            for (int other = -1; other <= 6; other++) {
                EDGES.due("team(" + other + ") with one of " + team, x.team(other), other == team ? 20000 : -1);
                EDGES.due("teamPlace(" + other + ") with one of " + team, x.teamPlace(other), other == team ? 1 : -1);
            }
        }
        ThreeDays none = new ThreeDays();
        none.rider(-1);
        for (int team = -2; team <= 6; team++) {
            EDGES.due("team(" + team + ") with one of none", none.team(team), -1);
        }
    }

    private static void fourOfOne() {
        EDGES.sentence("I, 4: 4 at most of one; NONE if 4 of it");
        for (int team = 0; team <= 5; team++) {
            int t = team;
            for (int n = 0; n < 4; n++) {
                int before = n;
                EDGES.answers("behind " + n + " of " + t, x -> ofTeam(x, t, before), x -> x.rider(t), n);
            }
            EDGES.refused("a fifth of " + t, x -> ofTeam(x, t, 4), x -> x.rider(t), -1);
            EDGES.answers("another behind four of " + t, x -> ofTeam(x, t, 4), x -> x.rider((t + 5) % 6), 4);
            EDGES.answers("one of none behind four of " + t, x -> ofTeam(x, t, 4), x -> x.rider(-1), 4);
        }
        EDGES.answers("a fifth of none", x -> Edges.riders(x, 4), x -> x.rider(-1), 4);
        EDGES.answers("a 24th of none", x -> Edges.riders(x, 23), x -> x.rider(-1), 23);
        ThreeDays full = new ThreeDays();
        for (int n = 0; n < 24; n++) {
            EDGES.due("six full teams, " + n, full.rider(n / 4), n);
        }
        for (int team = -1; team <= 5; team++) {
            EDGES.due("none more of " + team, full.rider(team), -1);
        }
    }

    private static void ofTeam(ThreeDays x, int team, int number) {
        for (int n = 0; n < number; n++) {
            x.rider(team);
        }
    }

    private static void thirtyFences() {
        EDGES.sentence("I, 5: FENCES 0 to n - 1 (30 at most)");
        for (int n = 0; n < 30; n++) {
            int before = n;
            EDGES.answers("a fence behind " + n, x -> Edges.fences(x, before), x -> x.fence(10), n + 1);
        }
        int[] metres = {0, 10, 2000, -1, 2001};
        for (int m : metres) {
            EDGES.refused("a 31st of " + m, x -> Edges.fences(x, 30), x -> x.fence(m), -1);
        }
        ThreeDays x = Edges.made(y -> Edges.fences(y, 30));
        EDGES.due("all(1)", x.all(1), 30);
        x.rider(-1);
        EDGES.due("all are unseen", x.count(0, UNSEEN), 30);
        EDGES.due("fence 29 is", x.report(0, 6, 29, 0, 0), 1);
        EDGES.due("fence 30 is not", x.report(0, 6, 30, 0, 0), -1);
        EDGES.due("one is seen", x.count(0, UNSEEN), 29);
        EDGES.due("none is unseen without fences", oneRider().count(0, UNSEEN), 0);
    }

    private static ThreeDays oneRider() {
        ThreeDays x = new ThreeDays();
        x.rider(-1);
        return x;
    }

    private static void metresOfAFence() {
        EDGES.sentence("I, 5: METRES (0 .. 2000); NONE if METRES can't be");
        EDGES.range("fence", Edges::empty, (x, metres) -> x.fence(metres), 0, 2000, -1);
        EDGES.range("fence of a busy one", Edges::busy, (x, metres) -> x.fence(metres), 0, 2000, -1);
        EDGES.range("fence behind 29", x -> Edges.fences(x, 29), (x, metres) -> x.fence(metres), 0, 2000, -1);
        int[][] rows = {{0, 0}, {1, 1}, {1999, 240}, {2000, 240}};
        for (int[] row : rows) {
            ThreeDays x = new ThreeDays();
            EDGES.due("the first one", x.fence(row[0]), 1);
            EDGES.due("optimum of " + row[0], x.all(3), row[1]);
        }
    }

    private static void endMetres() {
        EDGES.sentence("I, 6: END METRES (0 .. 2000; 0 at first); NONE if one can't be");
        EDGES.range("course, end", Edges::empty, (x, end) -> x.course(end, 500), 0, 2000, -1);
        EDGES.range("course, end, of a busy one", Edges::busy, (x, end) -> x.course(end, 123), 0, 2000, -1);
        int[][] rows = {{0, 0}, {1, 1}, {1999, 1200}, {2000, 1200}};
        for (int[] row : rows) {
            EDGES.answers("optimum of " + row[0] + " at 100", Edges::empty, x -> x.course(row[0], 100), row[1]);
        }
        EDGES.refused("both wrong", Edges::busy, x -> x.course(-1, 99), -1);
        EDGES.refused("both wrong above", Edges::busy, x -> x.course(2001, 701), -1);
        ThreeDays x = new ThreeDays();
        EDGES.due("1000", x.course(1000, 100), 600);
        EDGES.due("the later ones count, not both", x.course(500, 100), 300);
        EDGES.due("0 again", x.course(0, 100), 0);
    }

    private static void speeds() {
        EDGES.sentence("I, 6: SPEED (100 .. 700); NONE if one can't be");
        EDGES.range("course, speed", Edges::empty, (x, speed) -> x.course(1000, speed), 100, 700, -1);
        EDGES.range("course, speed, of a busy one", Edges::busy, (x, speed) -> x.course(1000, speed), 100, 700, -1);
        int[] wrong = {0, 1, -1, -100, -500, 99, 701};
        for (int speed : wrong) {
            EDGES.refused("speed " + speed + " with no metres", Edges::empty, x -> x.course(0, speed), -1);
        }
        int[][] rows = {{100, 1200}, {101, 1189}, {499, 241}, {500, 240}, {501, 240}, {699, 172}, {700, 172}};
        for (int[] row : rows) {
            EDGES.answers("2000 at " + row[0], Edges::empty, x -> x.course(2000, row[0]), row[1]);
        }
    }

    private static void atFirst() {
        EDGES.sentence("I: END METRES 0 at first, SPEED 500 at first, each clock 0 AHEAD at first");
        int[][] rows = {{24, 3}, {25, 3}, {26, 4}, {499, 60}, {500, 60}, {501, 61}};
        for (int[] row : rows) {
            ThreeDays x = new ThreeDays();
            x.fence(row[0]);
            EDGES.due("optimum of " + row[0], x.all(3), row[1]);
        }
        ThreeDays x = oneRider();
        x.report(0, 1, 0, 40, 0);
        x.report(0, 2, 0, 50, 0);
        EDGES.due("start", x.count(0, START), 40);
        EDGES.due("finish", x.count(0, FINISH), 50);
    }

    private static void optimumIsTheLeast() {
        EDGES.sentence("I: OPTIMUM: the least whole number not below 60 times all METRES over SPEED");
        int[] speeds = {100, 101, 333, 499, 500, 501, 599, 600, 601, 699, 700};
        for (int speed : speeds) {
            for (int from = 0; from <= 2000; from += 500) {
                ThreeDays x = new ThreeDays();
                for (int end = from; end < from + 500 && end <= 2000; end++) {
                    long optimum = x.course(end, speed);
                    boolean isNotBelow = optimum * speed >= 60L * end;
                    boolean isLeast = (optimum - 1) * speed < 60L * end;
                    EDGES.due(end + " at " + speed, isNotBelow && isLeast, true);
                }
            }
        }
        ThreeDays x = new ThreeDays();
        for (int n = 0; n < 30; n++) {
            x.fence(2000);
        }
        EDGES.due("60000 at 500", x.all(3), 7200);
        EDGES.due("62000 at 100", x.course(2000, 100), 37200);
        EDGES.due("62000 at 700", x.course(2000, 700), 5315);
        EDGES.due("as all(3)", x.all(3), 5315);
        x.rider(-1);
        EDGES.due("as a count", x.count(0, 14), 5315);
    }

    private static void postsThatAre() {
        EDGES.sentence("I, 7: POSTS: 0 at the start, 1 at the finish, 2 and f at FENCE f; false if there is none such");
        int[] numbers = {0, 1, 2, 29, 30};
        for (int fences : numbers) {
            EDGES.range("clock, post, with " + fences + " fences", x -> Edges.fences(x, fences),
                (x, post) -> Edges.number(x.clock(post, 600)), 0, 1 + fences, 0);
        }
        EDGES.range("clock, post, of a busy one", Edges::busy, (x, post) -> Edges.number(x.clock(post, -600)), 0, 4, 0);
        for (int post = 0; post <= 31; post++) {
            ThreeDays x = Edges.made(y -> Edges.fences(y, 30));
            x.rider(-1);
            x.report(0, 1, 0, 1000, 0);
            x.report(0, 2, 0, 2000, 0);
            x.report(0, 7, 5, 1100, 1200);
            EDGES.due("clock(" + post + ", 7)", x.clock(post, 7), true);
            EDGES.due("start by post 0, " + post, x.count(0, START), post == 0 ? 993 : 1000);
            EDGES.due("finish by post 1, " + post, x.count(0, FINISH), post == 1 ? 1993 : 2000);
            EDGES.due("time, " + post, x.count(0, TIME), post == 0 ? 907 : post == 1 ? 893 : 900);
        }
    }

    private static void secondsAhead() {
        EDGES.sentence("I, 7: so many seconds AHEAD (-600 .. 600); false if it can't be");
        for (int post = 0; post <= 4; post++) {
            int p = post;
            EDGES.range("clock(" + p + ", ..)", Edges::busy, (x, ahead) -> Edges.number(x.clock(p, ahead)), -600, 600, 0);
        }
        EDGES.refused("both wrong", Edges::busy, x -> Edges.number(x.clock(5, 601)), 0);
        EDGES.refused("both wrong below", Edges::busy, x -> Edges.number(x.clock(-1, -601)), 0);
    }

    private static void aheadAtTheEdges() {
        EDGES.sentence("II: START, FINISH: those of the last such REPORT, less what the POST is AHEAD");
        int[] aheads = {-600, -599, -1, 0, 1, 599, 600};
        int[] seconds = {0, 1, 86398, 86399};
        for (int ahead : aheads) {
            for (int second : seconds) {
                ThreeDays x = oneRider();
                x.report(0, 1, 0, second, 0);
                x.report(0, 2, 0, second, 0);
                x.clock(0, ahead);
                EDGES.due("start " + second + ", " + ahead + " ahead", x.count(0, START), second - ahead);
                EDGES.due("finish " + second + ", 0 ahead", x.count(0, FINISH), second);
                x.clock(1, ahead);
                EDGES.due("finish " + second + ", " + ahead + " ahead", x.count(0, FINISH), second - ahead);
                x.clock(0, 0);
                EDGES.due("put back", x.count(0, START), second);
            }
        }
        ThreeDays x = oneRider();
        x.report(0, 1, 0, 0, 0);
        x.report(0, 2, 0, 86399, 0);
        x.clock(0, 600);
        x.clock(1, -600);
        EDGES.due("the longest time", x.count(0, TIME), 86399 + 1200);
    }

    private static void takenOutFences() {
        EDGES.sentence("8: a FENCE is TAKEN OUT: true; false if there is none such");
        int[] numbers = {1, 2, 30};
        for (int fences : numbers) {
            Edges.Calls before = x -> Edges.fences(x, fences);
            int[] wrong = {-1, -2, fences, fences + 1, Integer.MIN_VALUE, Integer.MAX_VALUE};
            for (int fence : wrong) {
                EDGES.refused("out(" + fence + ", 5) of " + fences, before, x -> Edges.number(x.out(fence, 5)), 0);
                EDGES.refused("out(" + fence + ", -1) of " + fences, before, x -> Edges.number(x.out(fence, -1)), 0);
            }
            for (int fence = 0; fence < fences; fence++) {
                int f = fence;
                EDGES.answers("out(" + f + ", 5) of " + fences, before, x -> Edges.number(x.out(f, 5)), 1);
            }
        }
        EDGES.refused("out(0, 5) of none", Edges::empty, x -> Edges.number(x.out(0, 5)), 0);
        EDGES.refused("out(3, 5) of a busy one", Edges::busy, x -> Edges.number(x.out(3, 5)), 0);
        EDGES.refused("out(-1, 5) of a busy one", Edges::busy, x -> Edges.number(x.out(-1, 5)), 0);
        for (int fence = 0; fence < 30; fence++) {
            ThreeDays x = Edges.made(y -> Edges.fences(y, 30));
            x.rider(-1);
            x.report(0, 1, 0, 100, 0);
            x.report(0, 3, fence, 0, 0);
            x.out((fence + 1) % 30, 100);
            EDGES.due("fence " + fence + " counts beside one that does not", x.count(0, REFUSALS), 1);
            x.out(fence, 100);
            EDGES.due("fence " + fence + " does not count", x.count(0, REFUSALS), 0);
            EDGES.due("28 are left", x.count(0, UNSEEN), 28);
        }
    }

    private static void takenOutSeconds() {
        EDGES.sentence("8: from a second on (0 .. 86399; NONE: it is not); false if it can't be");
        for (int fence = 0; fence < 3; fence++) {
            int f = fence;
            EDGES.range("out(" + f + ", ..)", Edges::busy, (x, second) -> Edges.number(x.out(f, second)), -1, 86399, 0);
        }
        ThreeDays x = startedAt(500);
        EDGES.due("not taken out at first", x.count(0, REFUSALS), 1);
        x.out(0, 500);
        EDGES.due("taken out", x.count(0, REFUSALS), 0);
        EDGES.due("refused above", x.out(0, 86400), false);
        EDGES.due("still taken out", x.count(0, REFUSALS), 0);
        EDGES.due("refused below", x.out(0, -2), false);
        EDGES.due("still so", x.count(0, REFUSALS), 0);
        EDGES.due("NONE", x.out(0, -1), true);
        EDGES.due("it is not", x.count(0, REFUSALS), 1);
        EDGES.due("NONE again", x.out(0, -1), true);
        EDGES.due("it is still not", x.count(0, REFUSALS), 1);
    }

    /** A rider with a refusal at fence 0 and a start. */
    private static ThreeDays startedAt(int second) {
        ThreeDays x = oneRider();
        x.fence(10);
        x.report(0, 3, 0, 0, 0);
        x.report(0, 1, 0, second, 0);
        return x;
    }

    private static void beforeThatSecond() {
        EDGES.sentence("I: it COUNTS for a RIDER with a START (put right) before that second, not for others");
        int[] seconds = {0, 1, 600, 43200, 86398, 86399};
        for (int second : seconds) {
            for (int start = Math.max(0, second - 1); start <= Math.min(86399, second + 1); start++) {
                ThreeDays x = startedAt(start);
                x.out(0, second);
                long counts = start < second ? 1 : 0;
                EDGES.due("start " + start + ", out from " + second + ": refusals", x.count(0, REFUSALS), counts);
                EDGES.due("first", x.count(0, 5), counts);
            }
        }
        int[] aheads = {-600, -1, 0, 1, 600};
        for (int ahead : aheads) {
            for (int step = -1; step <= 1; step++) {
                ThreeDays x = startedAt(5000 + ahead + step);
                x.clock(0, ahead);
                x.clock(1, 17);
                x.clock(2, 600);
                x.out(0, 5000);
                EDGES.due("put right by " + ahead + ", step " + step, x.count(0, REFUSALS), step < 0 ? 1 : 0);
            }
        }
    }

    private static void withoutAStart() {
        EDGES.sentence("I: it COUNTS for a RIDER .. without a START");
        ThreeDays x = oneRider();
        x.rider(-1);
        x.fence(10);
        x.report(0, 3, 0, 0, 0);
        x.report(0, 2, 0, 90, 0);
        int[] seconds = {0, 1, 86399, -1};
        for (int second : seconds) {
            x.out(0, second);
            EDGES.due("a finish alone, out from " + second, x.count(0, REFUSALS), 1);
            EDGES.due("no report at all, out from " + second, x.count(1, UNSEEN), 1);
        }
        x.out(0, 50);
        x.report(0, 1, 0, 50, 0);
        EDGES.due("with a start", x.count(0, REFUSALS), 0);
        EDGES.due("the other is still without", x.count(1, UNSEEN), 1);
        x.report(0, 1, 0, 49, 0);
        EDGES.due("the last start counts", x.count(0, REFUSALS), 1);
        x.strike(4);
        EDGES.due("the one before", x.count(0, REFUSALS), 0);
        x.strike(3);
        EDGES.due("the start is struck: without", x.count(0, REFUSALS), 1);
    }

    private static void putRightAcrossTheDay() {
        EDGES.sentence("I: a START (put right) may lie ahead of second 0 or behind 86399");
        ThreeDays x = startedAt(0);
        x.out(0, 0);
        EDGES.due("start 0, out from 0", x.count(0, REFUSALS), 0);
        x.clock(0, 1);
        EDGES.due("start -1, out from 0", x.count(0, REFUSALS), 1);
        x.out(0, -1);
        EDGES.due("start -1, not taken out", x.count(0, REFUSALS), 1);
        ThreeDays y = startedAt(86399);
        y.out(0, 86399);
        y.clock(0, -600);
        EDGES.due("start 86999, out from 86399", y.count(0, REFUSALS), 0);
        y.clock(0, 1);
        EDGES.due("start 86398, out from 86399", y.count(0, REFUSALS), 1);
        ThreeDays z = startedAt(599);
        z.clock(0, 600);
        z.out(0, -1);
        EDGES.due("start -1 is no NONE", z.count(0, START), -1);
        EDGES.due("not taken out counts for it", z.count(0, REFUSALS), 1);
    }

    private static void metresStay() {
        EDGES.sentence("I: (its METRES stay)");
        ThreeDays x = startedAt(10);
        x.fence(490);
        EDGES.due("optimum", x.all(3), 60);
        x.out(0, 0);
        x.out(1, 0);
        EDGES.due("optimum with all taken out", x.all(3), 60);
        EDGES.due("as a count", x.count(0, 14), 60);
        EDGES.due("how many fences", x.all(1), 2);
        EDGES.due("a fence more", x.fence(10), 3);
        EDGES.due("one post more", x.clock(4, 0), true);
    }
}
