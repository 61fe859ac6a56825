/** Terms II (acts, kinds, strikes, as known at an act) and promises 9 to 11 at their edges. */
final class ActsEdgesTest {
    private static final Edges EDGES = new Edges("ActsEdgesTest");
    private static final int[] FAR = {-1, -2, 10000, 86400, Integer.MIN_VALUE, Integer.MAX_VALUE};
    private static final int KNOCKS = 8;

    public static void main(String[] args) {
        fourHundredActs();
        ridersThatAre();
        kindsThatAre();
        marks();
        starts();
        finishes();
        fencesThatAre();
        holds();
        rings();
        fenceIsNotLookedAt();
        numbersAreNotLookedAt();
        strikesOfReports();
        struckAlready();
        strikesOfStrikes();
        asKnownAt();
        struckByThen();
        asThatAre();
        asNoReport();
        asTheLastOne();
        asStays();
        EDGES.finish();
    }

    private static void knocks(ThreeDays x, int number) {
        x.rider(-1);
        for (int n = 0; n < number; n++) {
            x.report(0, 8, 0, 0, 0);
        }
    }

    /** Half of the acts strike the other half. */
    private static void struckKnocks(ThreeDays x, int number) {
        knocks(x, number / 2);
        for (int act = 1; act <= number / 2; act++) {
            x.strike(act);
        }
    }

    private static void fourHundredActs() {
        EDGES.sentence("II, 9, 10: ACTS, numbered from 1 on (400 at most); NONE if there are 400");
        EDGES.answers("the first", x -> knocks(x, 0), x -> x.report(0, 8, 0, 0, 0), 1);
        EDGES.answers("the 2nd", x -> knocks(x, 1), x -> x.report(0, 8, 0, 0, 0), 2);
        EDGES.answers("the 399th", x -> knocks(x, 398), x -> x.report(0, 8, 0, 0, 0), 399);
        EDGES.answers("the 400th", x -> knocks(x, 399), x -> x.report(0, 8, 0, 0, 0), 400);
        EDGES.answers("the 399th is a strike", x -> knocks(x, 398), x -> x.strike(1), 399);
        EDGES.answers("the 400th is a strike", x -> knocks(x, 399), x -> x.strike(399), 400);
        for (int kind = 0; kind <= 11; kind++) {
            int k = kind;
            EDGES.refused("a 401st of kind " + k, x -> {
                x.fence(1);
                knocks(x, 400);
            }, x -> x.report(0, k, 0, 3, 4), -1);
        }
        int[] acts = {1, 2, 399, 400};
        for (int act : acts) {
            EDGES.refused("a 401st that strikes " + act, x -> knocks(x, 400), x -> x.strike(act), -1);
        }
        EDGES.refused("a 401st behind strikes", x -> struckKnocks(x, 400), x -> x.report(0, 8, 0, 0, 0), -1);
        EDGES.answers("the 400th behind strikes", x -> struckKnocks(x, 398), x -> x.report(0, 8, 0, 0, 0), 399);
        ThreeDays x = Edges.made(y -> knocks(y, 400));
        EDGES.due("all(2)", x.all(2), 400);
        EDGES.due("all of them are known", x.count(0, KNOCKS), 400);
        EDGES.due("as(399)", x.as(399), true);
        EDGES.due("all but one", x.count(0, KNOCKS), 399);
        EDGES.due("still no act 401", x.report(0, 8, 0, 0, 0), -1);
        EDGES.due("one who came later", x.rider(-1), 1);
        EDGES.due("has no act left", x.report(1, 8, 0, 0, 0), -1);
    }

    private static void ridersThatAre() {
        EDGES.sentence("9: a REPORT is of a RIDER; NONE if something can't be");
        int[] numbers = {1, 2, 23, 24};
        for (int riders : numbers) {
            for (int kind = 0; kind <= 11; kind += 1) {
                int k = kind;
                Edges.Calls before = x -> {
                    Edges.riders(x, riders);
                    x.fence(1);
                };
                int[] wrong = {-1, riders, riders + 1, Integer.MIN_VALUE, Integer.MAX_VALUE};
                for (int rider : wrong) {
                    String call = "kind " + k + " of rider " + rider + " of " + riders;
                    EDGES.answers(call, before, x -> x.report(rider, k, 0, 3, 4), -1);
                }
                EDGES.answers("kind " + k + " of the first", before, x -> x.report(0, k, 0, 3, 4), 1);
                EDGES.answers("kind " + k + " of the last", before, x -> x.report(riders - 1, k, 0, 3, 4), 1);
            }
        }
        EDGES.refused("of none", Edges::empty, x -> x.report(0, 8, 0, 0, 0), -1);
        int[] wrong = {-1, 6, 23, 24, Integer.MIN_VALUE, Integer.MAX_VALUE};
        for (int rider : wrong) {
            EDGES.refused("of " + rider + " in a busy one", Edges::busy, x -> x.report(rider, 0, 0, 1, 0), -1);
        }
    }

    private static void kindsThatAre() {
        EDGES.sentence("II, 9: by KIND: 0 .. 11; NONE if something can't be");
        EDGES.range("report, kind", Edges::busy, (x, kind) -> x.report(0, kind, 0, 5, 6), 0, 11, -1);
        EDGES.range("report, kind, before", Edges::busyBefore, (x, kind) -> x.report(5, kind, 2, 5, 6), 0, 11, -1);
    }

    private static Edges.Tried ofKind(int kind) {
        return (x, a) -> x.report(1, kind, 0, a, 0);
    }

    private static void marks() {
        EDGES.sentence("II, 9: 0 MARKS a (0 .. 10000)");
        EDGES.range("report, marks", Edges::busy, ofKind(0), 0, 10000, -1);
        int[] numbers = {0, 1, 9999, 10000};
        for (int a : numbers) {
            EDGES.answers("marks " + a, x -> said(x, 0, a), x -> x.count(0, 0), a);
        }
    }

    private static void starts() {
        EDGES.sentence("II, 9: 1 START at second a of the day (0 .. 86399)");
        EDGES.range("report, start", Edges::busy, ofKind(1), 0, 86399, -1);
        int[] numbers = {0, 1, 86398, 86399};
        for (int a : numbers) {
            EDGES.answers("start " + a, x -> said(x, 1, a), x -> x.count(0, 15), a);
        }
    }

    private static void finishes() {
        EDGES.sentence("II, 9: 2 FINISH, likewise");
        EDGES.range("report, finish", Edges::busy, ofKind(2), 0, 86399, -1);
        int[] numbers = {0, 1, 86398, 86399};
        for (int a : numbers) {
            EDGES.answers("finish " + a, x -> said(x, 2, a), x -> x.count(0, 16), a);
        }
    }

    private static void rings() {
        EDGES.sentence("II, 9: 9 RING a (0 .. 9999)");
        EDGES.range("report, ring", Edges::busy, ofKind(9), 0, 9999, -1);
        int[] numbers = {0, 1, 9998, 9999};
        for (int a : numbers) {
            EDGES.answers("ring " + a, x -> said(x, 9, a), x -> x.count(0, 1), a);
        }
    }

    private static void said(ThreeDays x, int kind, int a) {
        x.rider(-1);
        x.report(0, kind, 0, a, 0);
    }

    private static void fencesThatAre() {
        EDGES.sentence("II, 9: at a FENCE: 3 REFUSAL, 4 FALL, 5 MISSED, 6 CLEAR, 7 HOLD; NONE if something can't be");
        for (int kind = 3; kind <= 7; kind++) {
            int k = kind;
            EDGES.range("report of kind " + k + ", fence", Edges::busy, (x, f) -> x.report(1, k, f, 5, 6), 0, 2, -1);
            EDGES.refused("kind " + k + " without fences", x -> x.rider(-1), x -> x.report(0, k, 0, 5, 6), -1);
            Edges.Calls thirty = x -> {
                x.rider(-1);
                Edges.fences(x, 30);
            };
            EDGES.range("report of kind " + k + ", fence of 30", thirty, (x, f) -> x.report(0, k, f, 5, 6), 0, 29, -1);
        }
    }

    private static void holds() {
        EDGES.sentence("II, 9: 7 HOLD from second a to second b (a up to b)");
        EDGES.range("hold from .. to 86399", Edges::busy, (x, a) -> x.report(1, 7, 0, a, 86399), 0, 86399, -1);
        EDGES.range("hold from 0 to ..", Edges::busy, (x, b) -> x.report(1, 7, 0, 0, b), 0, 86399, -1);
        EDGES.range("hold from 500 to ..", Edges::busy, (x, b) -> x.report(1, 7, 0, 500, b), 500, 86399, -1);
        EDGES.range("hold from .. to 500", Edges::busy, (x, a) -> x.report(1, 7, 0, a, 500), 0, 500, -1);
        int[][] wrong = {{1, 0}, {86399, 86398}, {86399, 0}, {-1, -1}, {86400, 86400}, {-5, -4}, {86400, 86401},
            {Integer.MIN_VALUE, Integer.MIN_VALUE}, {Integer.MAX_VALUE, Integer.MAX_VALUE},
            {Integer.MAX_VALUE, Integer.MIN_VALUE}, {Integer.MIN_VALUE, Integer.MAX_VALUE}};
        for (int[] w : wrong) {
            String call = "hold from " + w[0] + " to " + w[1];
            EDGES.refused(call, Edges::busy, x -> x.report(1, 7, 0, w[0], w[1]), -1);
        }
        EDGES.refused("a hold at no fence, second on the way", Edges::busy, x -> x.report(1, 7, 3, 5, 6), -1);
        int[][] right = {{0, 0}, {0, 1}, {499, 500}, {500, 500}, {86398, 86399}, {86399, 86399}};
        for (int[] r : right) {
            ThreeDays x = new ThreeDays();
            x.rider(-1);
            x.fence(1);
            x.report(0, 1, 0, 1000, 0);
            x.report(0, 2, 0, 1100, 0);
            EDGES.due("hold from " + r[0] + " to " + r[1], x.report(0, 7, 0, r[0], r[1]), 3);
            EDGES.due("time behind it", x.count(0, 17), 100 - (r[1] - r[0]));
        }
    }

    private static void fenceIsNotLookedAt() {
        EDGES.sentence("II: (KINDS 0 to 2, 8 to 11: fence is not looked at); 8 KNOCK (at no FENCE)");
        int[] kinds = {0, 1, 2, 8, 9, 10, 11};
        for (int kind : kinds) {
            for (int fence : FAR) {
                EDGES.answers("kind " + kind + ", fence " + fence, Edges::busy, x -> x.report(0, kind, fence, 5, 6), 34);
                EDGES.answers("kind " + kind + " without fences, " + fence, x -> x.rider(0),
                    x -> x.report(0, kind, fence, 5, 6), 1);
                EDGES.alike("kind " + kind + ", fence " + fence + " or 0", x -> {
                    x.rider(0);
                    x.fence(1);
                    x.report(0, kind, fence, 5, 6);
                }, x -> {
                    x.rider(0);
                    x.fence(1);
                    x.report(0, kind, 0, 5, 6);
                });
            }
        }
    }

    private static void numbersAreNotLookedAt() {
        EDGES.sentence("9: (fence, a, b are looked at as its KIND asks for them)");
        int[] withoutA = {3, 4, 5, 6, 8, 10, 11};
        for (int kind : withoutA) {
            for (int a : FAR) {
                EDGES.answers("kind " + kind + ", a " + a, Edges::busy, x -> x.report(0, kind, 0, a, 6), 34);
            }
        }
        for (int kind = 0; kind <= 11; kind++) {
            int k = kind;
            for (int b : FAR) {
                if (kind != 7) {
                    EDGES.answers("kind " + k + ", b " + b, Edges::busy, x -> x.report(0, k, 0, 5, b), 34);
                }
            }
        }
    }

    private static void strikesOfReports() {
        EDGES.sentence("II, 10: a STRIKE of a REPORT; NONE if there is none such");
        int[] wrong = {0, -1, -2, 5, 6, 400, 401, 65537, Integer.MIN_VALUE, Integer.MAX_VALUE};
        for (int act : wrong) {
            EDGES.refused("strike(" + act + ") of 4", x -> knocks(x, 4), x -> x.strike(act), -1);
        }
        EDGES.refused("strike(1) of none", Edges::empty, x -> x.strike(1), -1);
        EDGES.refused("strike(0) of none", Edges::empty, x -> x.strike(0), -1);
        EDGES.answers("the first of 4", x -> knocks(x, 4), x -> x.strike(1), 5);
        EDGES.answers("the last of 4", x -> knocks(x, 4), x -> x.strike(4), 5);
        for (int act = 1; act <= 4; act++) {
            ThreeDays x = Edges.made(y -> knocks(y, 4));
            x.strike(act);
            EDGES.due("one is not so any more, " + act, x.count(0, KNOCKS), 3);
        }
        for (int kind = 0; kind <= 11; kind++) {
            int k = kind;
            EDGES.answers("a report of kind " + k + " can be struck", x -> {
                x.rider(-1);
                x.fence(1);
                x.report(0, k, 0, 1, 2);
            }, x -> x.strike(1), 2);
        }
        EDGES.answers("one that is not known as all is told", x -> {
            knocks(x, 4);
            x.as(1);
        }, x -> x.strike(3), 5);
    }

    private static void struckAlready() {
        EDGES.sentence("II, 10: and was not STRUCK; NONE if it is STRUCK");
        Edges.Calls before = x -> {
            knocks(x, 4);
            x.strike(2);
        };
        EDGES.refused("the same again", before, x -> x.strike(2), -1);
        EDGES.answers("the one ahead", before, x -> x.strike(1), 6);
        EDGES.answers("the one behind", before, x -> x.strike(3), 6);
        Edges.Calls told = x -> {
            before.on(x);
            x.as(3);
        };
        EDGES.refused("the same, told as known ahead of the strike", told, x -> x.strike(2), -1);
        EDGES.answers("known there", told, x -> x.count(0, KNOCKS), 3);
        EDGES.refused("the same, told as known at no report", x -> {
            before.on(x);
            x.as(0);
        }, x -> x.strike(2), -1);
    }

    private static void strikesOfStrikes() {
        EDGES.sentence("II: a STRIKE is of an ACT that is a REPORT");
        Edges.Calls before = x -> {
            knocks(x, 2);
            x.strike(1);
            x.report(0, 8, 0, 0, 0);
        };
        EDGES.refused("a strike", before, x -> x.strike(3), -1);
        EDGES.answers("the report ahead of it", before, x -> x.strike(2), 5);
        EDGES.answers("the report behind it", before, x -> x.strike(4), 5);
        EDGES.refused("the last act is a strike", Edges::busy, x -> x.strike(32), -1);
    }

    private static void asKnownAt() {
        EDGES.sentence("II: as known at ACT t: all REPORTS up to t");
        for (int t = 0; t <= 6; t++) {
            int at = t;
            EDGES.answers("knocks at " + t, x -> {
                knocks(x, 6);
                x.as(at);
            }, x -> x.count(0, KNOCKS), t);
        }
        ThreeDays x = Edges.made(y -> knocks(y, 400));
        int[] acts = {0, 1, 2, 200, 398, 399, 400, 399, 1, 0};
        for (int act : acts) {
            x.as(act);
            EDGES.due("knocks at " + act, x.count(0, KNOCKS), act);
        }
    }

    private static void struckByThen() {
        EDGES.sentence("II: that are not STRUCK by t");
        ThreeDays x = Edges.made(y -> knocks(y, 3));
        x.strike(1);
        x.strike(3);
        x.report(0, 8, 0, 0, 0);
        int[] due = {0, 1, 2, 3, 2, 1, 2};
        for (int round = 0; round < 2; round++) {
            for (int i = 0; i < due.length; i++) {
                int act = round == 0 ? i : due.length - 1 - i;
                x.as(act);
                EDGES.due("knocks at " + act, x.count(0, KNOCKS), due[act]);
            }
        }
        ThreeDays last = new ThreeDays();
        said(last, 0, 5);
        last.report(0, 0, 0, 6, 0);
        last.strike(2);
        int[] marks = {0, 5, 6, 5};
        for (int act = 0; act < 4; act++) {
            last.as(act);
            EDGES.due("the last marks at " + act, last.count(0, 0), marks[act]);
        }
    }

    private static void asThatAre() {
        EDGES.sentence("11: true; false if there is none such");
        int[] numbers = {0, 1, 2, 399, 400};
        for (int acts : numbers) {
            Edges.Calls before = x -> knocks(x, acts);
            int[] right = {-1, 0, Math.min(1, acts), Math.max(0, acts - 1), acts};
            for (int act : right) {
                EDGES.answers("as(" + act + ") of " + acts, before, x -> Edges.number(x.as(act)), 1);
            }
            int[] wrong = {-2, -3, acts + 1, acts + 2, 65536, Integer.MIN_VALUE, Integer.MAX_VALUE};
            for (int act : wrong) {
                EDGES.refused("as(" + act + ") of " + acts, before, x -> Edges.number(x.as(act)), 0);
            }
        }
        int[] wrong = {-2, 34, 401, Integer.MIN_VALUE, Integer.MAX_VALUE};
        for (int act : wrong) {
            EDGES.refused("as(" + act + ") told as before", Edges::busyBefore, x -> Edges.number(x.as(act)), 0);
        }
        EDGES.answers("as of a strike", Edges::busy, x -> Edges.number(x.as(32)), 1);
        EDGES.answers("as of the last act", Edges::busy, x -> Edges.number(x.as(33)), 1);
    }

    private static void asNoReport() {
        EDGES.sentence("11: (0: no REPORT)");
        // As many acts came in both, so that what goes on is numbered alike.
        EDGES.alike("as(0), whatever was reported", x -> {
            told(x);
            x.report(0, 8, 0, 0, 0);
            x.report(0, 4, 0, 0, 0);
            x.as(0);
        }, x -> {
            told(x);
            x.report(0, 0, 0, 77, 0);
            x.report(0, 3, 0, 0, 0);
            x.as(0);
        });
        ThreeDays x = new ThreeDays();
        told(x);
        x.report(0, 8, 0, 0, 0);
        x.report(0, 4, 0, 0, 0);
        x.as(0);
        EDGES.due("all(5)", x.all(5), 0);
        EDGES.due("all(2)", x.all(2), 2);
        EDGES.due("marks", x.count(0, 0), 0);
        EDGES.due("unseen", x.count(0, 11), 1);
        EDGES.due("nobody is out", x.isOut(0), 0);
    }

    private static void told(ThreeDays x) {
        x.rider(0);
        x.fence(100);
        Due.rules(x, "total=marks;out if falls>0;");
    }

    private static void asTheLastOne() {
        EDGES.sentence("11: (NONE: always the last one)");
        ThreeDays x = Edges.made(y -> knocks(y, 1));
        EDGES.due("at first too", x.all(5), 1);
        x.report(0, 8, 0, 0, 0);
        EDGES.due("and goes along", x.all(5), 2);
        EDGES.due("as(2), the last act", x.as(2), true);
        x.report(0, 8, 0, 0, 0);
        EDGES.due("does not go along", x.all(5), 2);
        EDGES.due("is not known", x.count(0, KNOCKS), 2);
        EDGES.due("as(NONE)", x.as(-1), true);
        EDGES.due("the last one", x.all(5), 3);
        EDGES.due("is known", x.count(0, KNOCKS), 3);
        EDGES.due("a strike", x.strike(1), 4);
        EDGES.due("goes along", x.all(5), 4);
        EDGES.due("is struck", x.count(0, KNOCKS), 2);
    }

    private static void asStays() {
        EDGES.sentence("11: from now on all is told as known at an ACT");
        ThreeDays x = new ThreeDays();
        x.rider(-1);
        EDGES.due("as(0) of no act", x.as(0), true);
        x.report(0, 0, 0, 9, 0);
        EDGES.due("told at 0", x.all(5), 0);
        EDGES.due("not known", x.count(0, 0), 0);
        x.as(1);
        EDGES.due("known", x.count(0, 0), 9);
        x.strike(1);
        EDGES.due("struck later, still known", x.count(0, 0), 9);
        x.as(2);
        EDGES.due("struck by then", x.count(0, 0), 0);
        x.as(1);
        EDGES.due("and back", x.count(0, 0), 9);
        Due.rules(x, "total=marks*2;");
        EDGES.due("new rules are told at the same act", x.total(0), 18);
        EDGES.due("all(5)", x.all(5), 1);
    }
}
