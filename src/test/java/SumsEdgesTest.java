/** Terms III (how sums are worked out) and promises 15 to 17 at their edges. */
final class SumsEdgesTest {
    private static final Edges EDGES = new Edges("SumsEdgesTest");
    private static final long LIMIT = 1000000000000L;
    private static final long NO_SUM = -2000000000000L;
    // m is 10 to the 12, n is that below 0; p and q are one step inside.
    private static final String EDGE = "m=10000*10000*10000;n=0-m;p=m-1;q=n+1;";

    public static void main(String[] args) {
        numbersAtTheirEdges();
        sumsAboveTheLimit();
        differencesBelowTheLimit();
        productsBeyondTheLimit();
        productsFarBeyond();
        eachOnTheWay();
        limitsOfOthers();
        overOfBelowNought();
        overAtTheEdges();
        fromTheLeft();
        signs();
        ofAnOutIf();
        statementsThatAre();
        ridersThatAre();
        totalOutOrNot();
        outIfOneHolds();
        EDGES.finish();
    }

    /** What a sum gives for a rider without reports. */
    private static void sum(String sum, long want) {
        ThreeDays x = new ThreeDays();
        x.rider(-1);
        EDGES.due("rules: total=" + sum, Due.rules(x, EDGE + "total=" + sum + ";tie " + sum + ";"), 6);
        EDGES.due("total=" + sum, x.total(0), want);
        EDGES.due("given, total=" + sum, x.given(0, 4), want);
        EDGES.due("given, tie " + sum, x.given(0, 5), want);
    }

    private static void numbersAtTheirEdges() {
        EDGES.sentence("III: NUMBERS: 1 to 5 digits");
        sum("0", 0);
        sum("1", 1);
        sum("9", 9);
        sum("10", 10);
        sum("65535", 65535);
        sum("65536", 65536);
        sum("99998", 99998);
        sum("99999", 99999);
        sum("00000", 0);
        sum("00001", 1);
        sum("09999", 9999);
    }

    private static void sumsAboveTheLimit() {
        EDGES.sentence("III: each sum that is above 10 to the 12 is that");
        sum("m", LIMIT);
        sum("p", LIMIT - 1);
        sum("p+0", LIMIT - 1);
        sum("p+1", LIMIT);
        sum("p+2", LIMIT);
        sum("m+0", LIMIT);
        sum("m+1", LIMIT);
        sum("m+99999", LIMIT);
        sum("m+m", LIMIT);
        sum("p+p", LIMIT);
        sum("1+m", LIMIT);
        sum("n+n", -LIMIT);
        sum("q+n", -LIMIT);
        sum("q+(0-0)", 1 - LIMIT);
        sum("q+(0-1)", -LIMIT);
        sum("q+(0-2)", -LIMIT);
        sum("m+n", 0);
        sum("n+m", 0);
        sum("p+q", 0);
        sum("m+q", 1);
        sum("n+p", -1);
    }

    private static void differencesBelowTheLimit() {
        EDGES.sentence("III: each difference .. below -10 to the 12 likewise");
        sum("n", -LIMIT);
        sum("q", 1 - LIMIT);
        sum("q-0", 1 - LIMIT);
        sum("q-1", -LIMIT);
        sum("q-2", -LIMIT);
        sum("n-0", -LIMIT);
        sum("n-1", -LIMIT);
        sum("n-99999", -LIMIT);
        sum("n-m", -LIMIT);
        sum("0-m", -LIMIT);
        sum("0-n", LIMIT);
        sum("1-n", LIMIT);
        sum("m-n", LIMIT);
        sum("p-n", LIMIT);
        sum("p-(0-1)", LIMIT);
        sum("p-(0-2)", LIMIT);
        sum("m-m", 0);
        sum("n-n", 0);
        sum("m-1", LIMIT - 1);
        sum("m-p", 1);
        sum("p-m", -1);
    }

    private static void productsBeyondTheLimit() {
        EDGES.sentence("III: each product that is above 10 to the 12 is that, below -10 to the 12 likewise");
        // 999999 * 1000001 is one below the limit, 10001 * 99990001 is one above it.
        String below = "(99999*10+9)*(10000*100+1)";
        String above = "10001*(9999*10000+1)";
        sum(below, LIMIT - 1);
        sum("10000*100*(10000*100)", LIMIT);
        sum(above, LIMIT);
        sum(above + "-1", LIMIT - 1);
        sum("(0-(99999*10+9))*(10000*100+1)", 1 - LIMIT);
        sum("(99999*10+9)*(0-(10000*100+1))", 1 - LIMIT);
        sum("(0-10000*100)*(10000*100)", -LIMIT);
        sum("(0-10001)*(9999*10000+1)", -LIMIT);
        sum("10001*(0-(9999*10000+1))", -LIMIT);
        sum("(0-10001)*(0-(9999*10000+1))", LIMIT);
        sum("(0-(99999*10+9))*(0-(10000*100+1))", LIMIT - 1);
        sum("m*1", LIMIT);
        sum("1*m", LIMIT);
        sum("n*1", -LIMIT);
        sum("p*1", LIMIT - 1);
        sum("m*0", 0);
        sum("0*n", 0);
        sum("m*2", LIMIT);
        sum("2*n", -LIMIT);
        sum("m*(0-1)", -LIMIT);
        sum("n*(0-1)", LIMIT);
        sum("q*(0-1)", LIMIT - 1);
    }

    private static void productsFarBeyond() {
        EDGES.sentence("III: products far beyond (a wrap-around would show)");
        sum("m*m", LIMIT);
        sum("m*n", -LIMIT);
        sum("n*m", -LIMIT);
        sum("n*n", LIMIT);
        sum("p*p", LIMIT);
        sum("p*q", -LIMIT);
        sum("q*q", LIMIT);
        sum("m*99999", LIMIT);
        sum("99999*n", -LIMIT);
        // Products that come near 2 to the 63, 2 to the 64 and 2 to the 65.
        sum("(65536*65536)*(32768*65536)", LIMIT);
        sum("(65536*65536)*(65536*65536)", LIMIT);
        sum("(65536*65536)*(65536*65536+1)", LIMIT);
        sum("(0-65536*65536)*(65536*65536)", -LIMIT);
        sum("(65536*65536)*(0-32768*65536)", -LIMIT);
        sum("(65536*65536*2)*(65536*65536)", LIMIT);
        sum("(65536*65536-1)*(65536*65536-1)", LIMIT);
    }

    private static void eachOnTheWay() {
        EDGES.sentence("III: each sum, difference, product on the way");
        sum("m+5-5", LIMIT - 5);
        sum("n-5+5", 5 - LIMIT);
        sum("m*2-m", 0);
        sum("m*2/2", LIMIT / 2);
        sum("m*99999/99999", 10000100L);
        sum("(m+m)-(m+m)", 0);
        sum("m+(5-5)", LIMIT);
        sum("m+1-1+1-1", LIMIT - 1);
        sum("p+1+1-1", LIMIT - 1);
        sum("max(m+1,0)-1", LIMIT - 1);
        sum("0-(m+m)-m+m", 0);
    }

    private static void limitsOfOthers() {
        EDGES.sentence("III: / , max and min stay within");
        sum("m/1", LIMIT);
        sum("n/1", -LIMIT);
        sum("max(m,n)", LIMIT);
        sum("max(n,m)", LIMIT);
        sum("min(m,n)", -LIMIT);
        sum("min(n,m)", -LIMIT);
        sum("max(n,q)", 1 - LIMIT);
        sum("min(m,p)", LIMIT - 1);
        sum("max(p,p)", LIMIT - 1);
        sum("min(q,q)", 1 - LIMIT);
        sum("max(0,0-1)", 0);
        sum("min(0,0-1)", -1);
        sum("max(1,0)", 1);
        sum("min(1,0)", 0);
    }

    private static void overOfBelowNought() {
        EDGES.sentence("III: / gives the greatest whole number not above");
        for (int divisor = 1; divisor <= 7; divisor++) {
            for (int number = -15; number <= 15; number++) {
                int want = -16;
                while ((want + 1) * divisor <= number) {
                    want++;
                }
                String text = number < 0 ? "(0-" + -number + ")" : "" + number;
                ThreeDays x = new ThreeDays();
                x.rider(-1);
                Due.rules(x, "total=" + text + "/" + divisor + ";");
                EDGES.due(text + "/" + divisor, x.total(0), want);
            }
        }
    }

    private static void overAtTheEdges() {
        EDGES.sentence("III: / gives the greatest whole number not above, far off");
        sum("(0-1)/99999", -1);
        sum("1/99999", 0);
        sum("0/99999", 0);
        sum("99998/99999", 0);
        sum("99999/99999", 1);
        sum("(0-99998)/99999", -1);
        sum("(0-99999)/99999", -1);
        sum("(0-99999-1)/99999", -2);
        sum("m/3", 333333333333L);
        sum("n/3", -333333333334L);
        sum("p/3", 333333333333L);
        sum("q/3", -333333333333L);
        sum("m/99999", 10000100L);
        sum("n/99999", -10000101L);
        sum("m/7*7", 999999999999L);
        sum("n/7*7", -LIMIT);
        sum("0-7/2", -3);
        sum("(0-7)/2", -4);
        sum("0-(0-7)/2", 4);
    }

    private static void fromTheLeft() {
        EDGES.sentence("III: all from the left on");
        sum("9-5-3", 1);
        sum("9-5+3", 7);
        sum("2*7/4", 3);
        sum("7/4*2", 2);
        sum("100/7/3", 4);
        sum("100/7*3", 42);
        sum("1-2*3", -5);
        sum("1*2-3", -1);
        sum("20-6/4*2-1", 17);
        sum("(1-2)*3", -3);
        sum("8-(5-3)", 6);
    }

    private static void signs() {
        EDGES.sentence("III: out if SUM SIGN SUM, SIGN being < or > or =");
        String[] numbers = {"n", "q", "(0-1)", "0", "1", "99999", "p", "m"};
        String[] signs = {"<", "=", ">"};
        for (int left = 0; left < numbers.length; left++) {
            for (int right = 0; right < numbers.length; right++) {
                for (int sign = 0; sign < 3; sign++) {
                    ThreeDays x = new ThreeDays();
                    x.rider(-1);
                    String text = "out if " + numbers[left] + signs[sign] + numbers[right] + ";";
                    Due.rules(x, EDGE + "total=0;" + text);
                    int holds = Integer.compare(left, right) == sign - 1 ? 1 : 0;
                    EDGES.due("given, " + text, x.given(0, 5), holds);
                    EDGES.due("isOut, " + text, x.isOut(0), holds);
                }
            }
        }
        String[] limited = {"m+1=m", "n-1=n", "m+1=m*2"};
        for (String text : limited) {
            ThreeDays x = new ThreeDays();
            x.rider(-1);
            Due.rules(x, EDGE + "total=0;out if " + text + ";");
            EDGES.due(text, x.isOut(0), 1);
        }
    }

    private static void ofAnOutIf() {
        EDGES.sentence("15: its SUM; of an out if 1 if it holds, 0 if not");
        ThreeDays x = new ThreeDays();
        x.rider(-1);
        x.rider(-1);
        Due.rules(x, "out if marks>5;total=marks;tie total-6;out if marks<5;x=9*marks;");
        for (int marks = 4; marks <= 6; marks++) {
            x.report(0, 0, 0, marks, 0);
            EDGES.due("above 5, " + marks, x.given(0, 0), marks > 5 ? 1 : 0);
            EDGES.due("total, " + marks, x.given(0, 1), marks);
            EDGES.due("tie, " + marks, x.given(0, 2), marks - 6);
            EDGES.due("below 5, " + marks, x.given(0, 3), marks < 5 ? 1 : 0);
            EDGES.due("given, " + marks, x.given(0, 4), 9 * marks);
            EDGES.due("out, " + marks, x.isOut(0), marks == 5 ? 0 : 1);
        }
        EDGES.due("the other one", x.given(1, 2), -6);
    }

    private static void statementsThatAre() {
        EDGES.sentence("15: STATEMENT k; -2000000000000 if there is none such");
        EDGES.range("given, k", Edges::busy, (x, k) -> x.given(0, k), 0, 4, NO_SUM);
        int[] numbers = {1, 2, 23, 24};
        for (int statements : numbers) {
            Edges.Calls before = x -> {
                x.rider(-1);
                Due.rules(x, "total=7;" + "tie 8;".repeat(statements - 1));
            };
            int[] wrong = {-1, -15, statements, statements + 1, Integer.MIN_VALUE, Integer.MAX_VALUE};
            for (int k : wrong) {
                EDGES.answers("given(0, " + k + ") of " + statements, before, x -> x.given(0, k), NO_SUM);
            }
            EDGES.answers("the first of " + statements, before, x -> x.given(0, 0), 7);
            EDGES.answers("the last of " + statements, before, x -> x.given(0, statements - 1), statements > 1 ? 8 : 7);
        }
        EDGES.answers("of none", x -> x.rider(-1), x -> x.given(0, 0), NO_SUM);
        ThreeDays x = new ThreeDays();
        x.rider(-1);
        Due.rules(x, "total=7;tie 8;tie 9;");
        Due.rules(x, "total=5;");
        EDGES.due("of the rules before", x.given(0, 1), NO_SUM);
        EDGES.due("of the rules now", x.given(0, 0), 5);
    }

    private static void ridersThatAre() {
        EDGES.sentence("15, 16, 17: of a RIDER; -2000000000000, NONE if there is none such");
        EDGES.range("given, rider", Edges::busy, (x, rider) -> x.given(rider, 0), 0, 5, NO_SUM);
        EDGES.range("total", Edges::busy, (x, rider) -> x.total(rider), 0, 5, NO_SUM);
        EDGES.range("isOut", Edges::busy, (x, rider) -> x.isOut(rider), 0, 5, -1);
        EDGES.range("total of 24", x -> Edges.riders(x, 24), (x, rider) -> x.total(rider), 0, 23, NO_SUM);
        EDGES.range("isOut of 24", x -> Edges.riders(x, 24), (x, rider) -> x.isOut(rider), 0, 23, -1);
        int[] wrong = {-1, 0, 1, 23, 24, Integer.MIN_VALUE, Integer.MAX_VALUE};
        for (int rider : wrong) {
            EDGES.answers("given(" + rider + ", 0) of nobody", x -> Due.rules(x, "total=1;"), x -> x.given(rider, 0), NO_SUM);
            EDGES.answers("total(" + rider + ") of nobody", x -> Due.rules(x, "total=1;"), x -> x.total(rider), NO_SUM);
            EDGES.answers("isOut(" + rider + ") of nobody", x -> Due.rules(x, "total=1;"), x -> x.isOut(rider), -1);
        }
    }

    private static void totalOutOrNot() {
        EDGES.sentence("16: TOTAL of a RIDER, OUT or not");
        ThreeDays x = new ThreeDays();
        x.rider(-1);
        Due.rules(x, "total=marks-3;out if looks>0;");
        x.report(0, 0, 0, 2, 0);
        EDGES.due("not out", x.total(0), -1);
        x.report(0, 10, 0, 0, 0);
        EDGES.due("is out", x.isOut(0), 1);
        EDGES.due("out", x.total(0), -1);
        x.report(0, 0, 0, 10000, 0);
        EDGES.due("out, with more marks", x.total(0), 9997);
        x.as(0);
        EDGES.due("as known at no report", x.total(0), -3);
    }

    private static void outIfOneHolds() {
        EDGES.sentence("IV: a RIDER is OUT, if an out if holds");
        for (int holding = 0; holding < 16; holding++) {
            StringBuilder text = new StringBuilder("total=1;");
            for (int i = 0; i < 4; i++) {
                text.append((holding >> i & 1) == 1 ? "out if 1=1;" : "out if 1=2;");
            }
            ThreeDays x = new ThreeDays();
            x.rider(-1);
            Due.rules(x, text.toString());
            EDGES.due(text.toString(), x.isOut(0), holding == 0 ? 0 : 1);
        }
        ThreeDays x = new ThreeDays();
        x.rider(-1);
        Due.rules(x, "x=1;tie 1;total=1;");
        EDGES.due("without an out if nobody is", x.isOut(0), 0);
        Due.rules(x, "total=1;" + "out if 1>2;".repeat(22) + "out if 2>1;");
        EDGES.due("the last of 24", x.isOut(0), 1);
        Due.rules(x, "out if 2>1;" + "out if 1>2;".repeat(22) + "total=1;");
        EDGES.due("the first of 24", x.isOut(0), 1);
    }
}
