/** Promises 1 and 24 at their edges, the longest run, and every call with numbers of every size. */
final class AllEdgesTest {
    private static final Edges EDGES = new Edges("AllEdgesTest");
    private static final int[] SIZES = {Integer.MIN_VALUE, Integer.MIN_VALUE + 1, -65536, -600, -2, -1, 0, 1, 2, 5, 6, 23,
        24, 29, 30, 31, 32, 399, 400, 401, 600, 601, 9999, 10000, 10001, 86399, 86400, 65536, Integer.MAX_VALUE - 1,
        Integer.MAX_VALUE};
    private static final int[][] PAIRS = {{0, 0}, {0, -1}, {-1, 0}, {1, 0}, {0, 1}, {9999, 10000}, {10000, 9999},
        {10001, 86399}, {86399, 86399}, {86399, 86400}, {86400, 86400}, {Integer.MIN_VALUE, 0}, {0, Integer.MAX_VALUE},
        {Integer.MAX_VALUE, Integer.MIN_VALUE}, {Integer.MIN_VALUE, Integer.MAX_VALUE}};
    private static final int[] FEW = {Integer.MIN_VALUE, -1, 0, 1, 6, 11, 12, 86399, Integer.MAX_VALUE};

    public static void main(String[] args) {
        aNewObject();
        objectsAreApart();
        allThatIs();
        allAtTheirEdges();
        askingDoesNothing();
        theLongestRun();
        numbersOfEverySize();
        reportsOfEverySize();
        EDGES.finish();
    }

    private static void aNewObject() {
        EDGES.sentence("1: no RIDERS, FENCES, ACTS, RULES");
        for (int what = 0; what <= 5; what++) {
            int w = what;
            EDGES.answers("all(" + w + ")", Edges::empty, x -> x.all(w), 0);
        }
        EDGES.answers("rider", Edges::empty, x -> x.rider(0), 0);
        EDGES.answers("fence", Edges::empty, x -> x.fence(0), 1);
        EDGES.answers("feed", Edges::empty, x -> x.feed(0, 0, 0, 0, 0), 20);
        EDGES.answers("end(0)", Edges::empty, x -> Edges.number(x.end(0)), 1);
        EDGES.answers("end(1)", Edges::empty, x -> Edges.number(x.end(1)), 0);
        EDGES.answers("course", Edges::empty, x -> x.course(0, 500), 0);
        EDGES.answers("clock(0, 0)", Edges::empty, x -> Edges.number(x.clock(0, 0)), 1);
        EDGES.answers("clock(1, 0)", Edges::empty, x -> Edges.number(x.clock(1, 0)), 1);
        EDGES.answers("clock(2, 0)", Edges::empty, x -> Edges.number(x.clock(2, 0)), 0);
        EDGES.answers("out(0, 0)", Edges::empty, x -> Edges.number(x.out(0, 0)), 0);
        EDGES.answers("report", Edges::empty, x -> x.report(0, 0, 0, 0, 0), -1);
        EDGES.answers("strike(1)", Edges::empty, x -> x.strike(1), -1);
        EDGES.answers("strike(0)", Edges::empty, x -> x.strike(0), -1);
        EDGES.answers("as(0)", Edges::empty, x -> Edges.number(x.as(0)), 1);
        EDGES.answers("as(-1)", Edges::empty, x -> Edges.number(x.as(-1)), 1);
        EDGES.answers("as(1)", Edges::empty, x -> Edges.number(x.as(1)), 0);
        EDGES.answers("rules", Edges::empty, x -> x.rules(), -1);
        EDGES.answers("fault(0)", Edges::empty, x -> x.fault(0), 0);
        EDGES.answers("fault(1)", Edges::empty, x -> x.fault(1), -1);
        EDGES.answers("count", Edges::empty, x -> x.count(0, 0), -2000000);
        EDGES.answers("given", Edges::empty, x -> x.given(0, 0), -2000000000000L);
        EDGES.answers("total", Edges::empty, x -> x.total(0), -2000000000000L);
        EDGES.answers("isOut", Edges::empty, x -> x.isOut(0), -1);
        EDGES.answers("against", Edges::empty, x -> x.against(0, 0), -2);
        EDGES.answers("place", Edges::empty, x -> x.place(0), -1);
        EDGES.answers("team", Edges::empty, x -> x.team(0), -1);
        EDGES.answers("teamPlace", Edges::empty, x -> x.teamPlace(0), -1);
        EDGES.answers("ring", Edges::empty, x -> x.ring(0), -1);
        EDGES.answers("since", Edges::empty, x -> x.since(0), -1);
        EDGES.due("NONE", ThreeDays.NONE, -1);
    }

    private static void objectsAreApart() {
        EDGES.sentence("1: each object by itself");
        EDGES.alike("a busy one beside it", x -> {
            ThreeDays other = new ThreeDays();
            Edges.busy(other);
            Edges.busy(x);
            other.report(0, 11, 0, 0, 0);
            Due.rules(other, "total=0-marks;out if 1=1;");
            other.as(0);
            other.clock(0, 600);
        }, Edges::busy);
        EDGES.alike("a new one behind a busy one", x -> Edges.busy(new ThreeDays()), Edges::empty);
    }

    private static void allThatIs() {
        EDGES.sentence("24: 0 RIDERS .. 5 the ACT as known at which all is told; NONE for others");
        EDGES.range("all", Edges::busy, (x, what) -> x.all(what), 0, 5, -1);
        EDGES.range("all of a new one", Edges::empty, (x, what) -> x.all(what), 0, 5, -1);
        int[] due = {6, 3, 33, 125, 5, 33};
        for (int what = 0; what < due.length; what++) {
            EDGES.due("all(" + what + ") of a busy one", Edges.made(Edges::busy).all(what), due[what]);
            EDGES.due("all(" + what + "), told as before", Edges.made(Edges::busyBefore).all(what), what == 5 ? 20 : due[what]);
        }
    }

    private static void allAtTheirEdges() {
        EDGES.sentence("24: how many there are, as they come and as they are refused");
        ThreeDays x = new ThreeDays();
        for (int n = 1; n <= 26; n++) {
            x.rider(-1);
            EDGES.due("riders, " + n, x.all(0), Math.min(n, 24));
        }
        for (int n = 1; n <= 32; n++) {
            x.fence(100);
            EDGES.due("fences, " + n, x.all(1), Math.min(n, 30));
            EDGES.due("optimum, " + n, x.all(3), 12 * Math.min(n, 30));
        }
        for (int n = 1; n <= 26; n++) {
            ThreeDays y = new ThreeDays();
            Due.rules(y, "total=1;" + "tie 1;".repeat(n - 1));
            EDGES.due("statements, " + n, y.all(4), n <= 24 ? n : 0);
        }
        ThreeDays acts = new ThreeDays();
        acts.rider(-1);
        for (int n = 1; n <= 400; n++) {
            acts.report(0, 8, 0, 0, 0);
        }
        for (int n = 0; n < 3; n++) {
            EDGES.due("acts", acts.all(2), 400);
            EDGES.due("told at", acts.all(5), 400);
            acts.report(0, 8, 0, 0, 0);
            acts.strike(1);
        }
    }

    private static void askingDoesNothing() {
        EDGES.sentence("14 to 24, 13: what asks does nothing");
        Edges.Calls[] before = {Edges::busy, Edges::busyBefore};
        for (Edges.Calls b : before) {
            EDGES.alike("asked much", x -> {
                b.on(x);
                askMuch(x);
            }, b);
        }
    }

    private static void askMuch(ThreeDays x) {
        for (int r = -1; r <= 6; r++) {
            x.since(r);
            x.count(r, 17);
            x.given(r, 2);
            x.total(r);
            x.isOut(r);
            x.against(r, 0);
            x.place(r);
            x.team(r);
            x.teamPlace(r);
            x.ring(r);
            x.all(r);
            x.fault(r);
        }
    }

    /** 24 riders, 30 fences, a text of 600 bytes and 400 acts: 485 calls, and 27 that ask. */
    private static void theLongestRun() {
        EDGES.sentence("at most 512 calls, and each of them is answered");
        ThreeDays x = new ThreeDays();
        for (int n = 0; n < 24; n++) {
            EDGES.due("rider " + n, x.rider(n % 6), n);
        }
        for (int n = 1; n <= 30; n++) {
            EDGES.due("fence " + n, x.fence(2000), n);
        }
        String text = "total=marks;out if looks>0;tie ring;" + "tie 0;".repeat(20) + "tie 0-marks-1" + "+1".repeat(215) + ";";
        EDGES.due("the text's length", text.length(), 600);
        for (int at = 0; at < 600; at += 20) {
            EDGES.due("feed " + at, x.feed(Due.four(text, at), Due.four(text, at + 4), Due.four(text, at + 8),
                Due.four(text, at + 12), Due.four(text, at + 16)), at + 20);
        }
        EDGES.due("rules", x.rules(), 24);
        for (int act = 1; act <= 200; act++) {
            EDGES.due("report " + act, x.report(act % 24, 0, 0, act, 0), act);
        }
        for (int act = 201; act <= 400; act++) {
            boolean isStrike = act % 2 == 0;
            EDGES.due("act " + act, isStrike ? x.strike(act - 200) : x.report(act % 24, 6, act % 30, 0, 0), act);
        }
        // The even marks of the last round are struck: of rider r with r even none is left.
        for (int r = 0; r < 24; r++) {
            int last = r <= 8 ? r + 192 : r + 168;
            EDGES.due("total of " + r, x.total(r), r % 2 == 0 ? 0 : last);
        }
        EDGES.due("place of one without marks", x.place(0), 1);
        EDGES.due("place behind those", x.place(9), 13);
        EDGES.due("since: marks 200 of rider 8 stood until 399", x.since(9), 399);
    }

    /** Each call with each number, on three objects, as the model has it. */
    private static void numbersOfEverySize() {
        EDGES.sentence("any numbers, as the model has them");
        for (int state = 0; state < 3; state++) {
            for (int a : SIZES) {
                one(state, a);
                for (int b : SIZES) {
                    two(state, a, b);
                }
            }
        }
    }

    private static ThreeDays object(int state) {
        ThreeDays x = new ThreeDays();
        if (state > 0) {
            Edges.riders(x, state == 1 ? 6 : 24);
            Edges.fences(x, state == 1 ? 2 : 30);
            x.report(0, 0, 0, 7, 0);
            x.report(1, 1, 0, 500, 0);
            x.report(1, 2, 0, 900, 0);
            x.report(1, 3, 1, 0, 0);
            x.strike(1);
            Due.rules(x, "total=marks+refusals;tie over;");
        }
        return x;
    }

    private static Model model(int state) {
        Model m = new Model();
        if (state > 0) {
            for (int n = 0; n < (state == 1 ? 6 : 24); n++) {
                m.rider(-1);
            }
            for (int n = 0; n < (state == 1 ? 2 : 30); n++) {
                m.fence(10);
            }
            m.report(0, 0, 0, 7, 0);
            m.report(1, 1, 0, 500, 0);
            m.report(1, 2, 0, 900, 0);
            m.report(1, 3, 1, 0, 0);
            m.strike(1);
            String text = "total=marks+refusals;tie over;          ";
            for (int at = 0; at < 40; at += 20) {
                m.feed(Due.four(text, at), Due.four(text, at + 4), Due.four(text, at + 8), Due.four(text, at + 12),
                    Due.four(text, at + 16));
            }
            m.rules();
        }
        return m;
    }

    private static void one(int state, int a) {
        ThreeDays x = object(state);
        Model m = model(state);
        String of = "(" + a + "), state " + state;
        EDGES.due("fault" + of, x.fault(a), m.fault(a));
        EDGES.due("total" + of, x.total(a), m.total(a));
        EDGES.due("isOut" + of, x.isOut(a), m.isOut(a));
        EDGES.due("place" + of, x.place(a), m.place(a));
        EDGES.due("team" + of, x.team(a), m.team(a));
        EDGES.due("teamPlace" + of, x.teamPlace(a), m.teamPlace(a));
        EDGES.due("ring" + of, x.ring(a), m.ring(a));
        EDGES.due("since" + of, x.since(a), m.since(a));
        EDGES.due("all" + of, x.all(a), m.all(a));
        EDGES.due("feed" + of, x.feed(a, a, a, a, a), m.feed(a, a, a, a, a));
        EDGES.due("end" + of, x.end(a), m.end(a));
        EDGES.due("rider" + of, x.rider(a), m.rider(a));
        EDGES.due("fence" + of, x.fence(a), m.fence(a));
        EDGES.due("strike" + of, x.strike(a), m.strike(a));
        EDGES.due("as" + of, x.as(a), m.as(a));
        EDGES.due("rules" + of, x.rules(), m.rules());
        for (int what = 0; what <= 5; what++) {
            EDGES.due("all(" + what + ") behind" + of, x.all(what), m.all(what));
        }
    }

    private static void two(int state, int a, int b) {
        ThreeDays x = object(state);
        Model m = model(state);
        String of = "(" + a + ", " + b + "), state " + state;
        EDGES.due("count" + of, x.count(a, b), m.count(a, b));
        EDGES.due("given" + of, x.given(a, b), m.given(a, b));
        EDGES.due("against" + of, x.against(a, b), m.against(a, b));
        EDGES.due("clock" + of, x.clock(a, b), m.clock(a, b));
        EDGES.due("out" + of, x.out(a, b), m.out(a, b));
        EDGES.due("course" + of, x.course(a, b), m.course(a, b));
        EDGES.due("start behind" + of, x.count(1, 15), m.count(1, 15));
        EDGES.due("finish behind" + of, x.count(1, 16), m.count(1, 16));
        EDGES.due("refusals behind" + of, x.count(1, 2), m.count(1, 2));
        EDGES.due("unseen behind" + of, x.count(1, 11), m.count(1, 11));
        EDGES.due("optimum behind" + of, x.all(3), m.all(3));
    }

    private static void reportsOfEverySize() {
        EDGES.sentence("9: any numbers, as the model has them");
        for (int state = 0; state < 2; state++) {
            ThreeDays x = object(state);
            Model m = model(state);
            int calls = 0;
            for (int rider : FEW) {
                for (int kind = -1; kind <= 12; kind++) {
                    for (int fence : FEW) {
                        for (int[] ab : PAIRS) {
                            if (calls == 400 || m.all(2) == 400) {
                                x = object(state);
                                m = model(state);
                                calls = 0;
                            }
                            calls++;
                            String call = "report(" + rider + ", " + kind + ", " + fence + ", " + ab[0] + ", " + ab[1] + ")";
                            EDGES.due(call, x.report(rider, kind, fence, ab[0], ab[1]), m.report(rider, kind, fence, ab[0], ab[1]));
                        }
                    }
                }
            }
        }
    }
}
