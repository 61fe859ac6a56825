/** Promises 12 and 13: the rules' text and its faults. */
final class RulesTest {
    private static final Due DUE = new Due("RulesTest");
    private static final String[] COUNTS = {"marks", "ring", "refusals", "falls", "missed", "first", "second",
        "third", "knocks", "looks", "retired", "unseen", "over", "under", "optimum"};

    public static void main(String[] args) {
        goodTexts();
        textsThatDoNotGoOn();
        textsThatEndTooSoon();
        longWordsAndNumbers();
        wordsWhereNoneFits();
        openBrackets();
        statementsAreTwentyFour();
        divisionsByZero();
        namesInSums();
        namesThatAreGiven();
        totalIsMissing();
        theFirstFaultAlongTheText();
        everyByte();
        faultTells();
        rulesBeforeStay();
        theTapeGoes();
        DUE.finish();
    }

    private static void good(String text, int statements) {
        ThreeDays x = new ThreeDays();
        DUE.due("12: rules of '" + text + "'", Due.rules(x, text), statements);
        DUE.due("13: fault of '" + text + "'", x.fault(0), 0);
        DUE.due("13: its place", x.fault(1), -1);
        DUE.due("24: statements", x.all(4), statements);
    }

    private static void bad(String text, int fault, int place) {
        ThreeDays x = new ThreeDays();
        DUE.due("12: rules of '" + text + "'", Due.rules(x, text), -1);
        DUE.due("13: fault of '" + text + "'", x.fault(0), fault);
        DUE.due("13: its place in '" + text + "'", x.fault(1), place);
        DUE.due("24: no statements", x.all(4), 0);
    }

    private static void goodTexts() {
        good("total=1;", 1);
        good("  total\n=\n 1 ; ", 1);
        good("total=marks;tie marks;", 2);
        good("total=1;out if 1<2;out if 1>2;out if 1=2;", 4);
        good("total=1;out if1<2;", 2);
        good("total=1;out\nif(1)<2;tie(3);tie4;", 4);
        good("a=1;total=a+a*a/2-(a);", 2);
        good("total=max(1,2)+min(max(1,2),3);", 1);
        good("total=max ( 1 , 2 ) ;", 1);
        good("outif=1;tied=2;iffy=3;maxi=4;mini=5;total=outif+tied+iffy+maxi+mini;", 6);
        good("abcdefghij=99999;total=abcdefghij*00001;", 2);
        good("total=1/1/2/00003;", 1);
        good("out if marks>1; tie ring; total=1;", 3);
        good("start=1;finish=2;time=3;total=start;", 4);
        for (String count : COUNTS) {
            good("total=" + count + ";", 1);
        }
    }

    private static void textsThatDoNotGoOn() {
        bad("total=1;;", 1, 8);
        bad(";", 1, 0);
        bad("5=1;", 1, 0);
        bad("(total)=1;", 1, 0);
        bad("total 1;", 1, 6);
        bad("total;", 1, 5);
        bad("total==1;", 1, 6);
        bad("total=1=2;", 1, 7);
        bad("total=1<2;", 1, 7);
        bad("total=-1;", 1, 6);
        bad("total=+1;", 1, 6);
        bad("total=1++1;", 1, 8);
        bad("total=1*-1;", 1, 8);
        bad("total=1 1;", 1, 8);
        bad("total=1 marks;", 1, 8);
        bad("total=marks 1;", 1, 12);
        bad("total=marks1;", 1, 11);
        bad("total=1marks;", 1, 7);
        bad("total=marks ring;", 1, 12);
        bad("total=(1;", 1, 8);
        bad("total=1);", 1, 7);
        bad("total=();", 1, 7);
        bad("total=(1,2);", 1, 8);
        bad("total=(1)(2);", 1, 9);
        bad("total=marks(2);", 1, 11);
        bad("total=max(1);", 1, 11);
        bad("total=max(1,2,3);", 1, 13);
        bad("total=max 1,2;", 1, 10);
        bad("total=max;", 1, 9);
        bad("total=min+1;", 1, 9);
        bad("total=max(,2);", 1, 10);
        bad("total=max(1,);", 1, 12);
        bad("total=1/marks;", 1, 8);
        bad("total=1/(2);", 1, 8);
        bad("total=1/max(1,2);", 1, 8);
        bad("total=1/;", 1, 8);
        bad("total=1;out 1<2;", 1, 12);
        bad("total=1;out=2;", 1, 11);
        bad("total=1;out if;", 1, 14);
        bad("total=1;out if 1;", 1, 16);
        bad("total=1;out if 1<2<3;", 1, 18);
        bad("total=1;out if 1<=2;", 1, 17);
        bad("total=1;out if (1<2);", 1, 17);
        bad("total=1;tie;", 1, 11);
        bad("total=1;tie=2;", 1, 11);
        bad("total=1;tie 1=2;", 1, 13);
        bad("total=1;if=2;", 1, 8);
        bad("max=1;", 1, 0);
        bad("min=1;", 1, 0);
        bad("total=1;\tb=2;", 1, 8);
        bad("total=1;\rb=2;", 1, 8);
        bad("Total=1;", 1, 0);
        bad("tOtal=1;", 1, 1);
        bad("total=1;\u00e4=1;", 1, 8);
    }

    private static void textsThatEndTooSoon() {
        bad("t", 1, 1);
        bad("total", 1, 5);
        bad("total=", 1, 6);
        bad("total=1", 1, 7);
        bad("total=1  ", 1, 9);
        bad("total=1+", 1, 8);
        bad("total=1/", 1, 8);
        bad("total=(", 1, 7);
        bad("total=max", 1, 9);
        bad("total=max(1,", 1, 12);
        bad("total=1;out", 1, 11);
        bad("total=1;out ", 1, 12);
        bad("total=1;out if", 1, 14);
        bad("total=1;out if 1<", 1, 17);
        bad("total=1;tie \n", 1, 13);
        bad("a=1", 1, 3);
        bad("total=1;" + " ".repeat(591) + "a", 1, 600);
        bad("total=1;tie" + " ".repeat(587) + "12", 1, 600);
        bad("total=1;tie" + " ".repeat(588) + "x", 3, 599);
    }

    private static void longWordsAndNumbers() {
        bad("abcdefghijk=1;", 1, 10);
        bad("abcdefghijklmnopqrstuvwxyzabcdefghijklmnopqrstuvwxyz=1;", 1, 10);
        bad("total=abcdefghijk;", 1, 16);
        bad("total=1;tie abcdefghijk;", 1, 22);
        bad("outoutoutout=1;", 1, 10);
        bad("total=123456;", 1, 11);
        bad("total=000001;", 1, 11);
        bad("total=1/123456;", 1, 13);
        bad("total=1/000000;", 1, 13);
        bad("total=99999999999999999999999999999999;", 1, 11);
        bad("total=1+123456", 1, 13);
    }

    private static void wordsWhereNoneFits() {
        bad("total=1 abcdefghijk;", 1, 8);
        bad("total=1;out abcdefghijk;", 1, 12);
        bad("total=1;out ifif 1<2;", 1, 12);
        bad("total=1;out out 1<2;", 1, 12);
        bad("123456=1;", 1, 0);
        bad("total=marks 123456;", 1, 12);
        bad("total=out;", 1, 6);
        bad("total=if;", 1, 6);
        bad("total=tie;", 1, 6);
        bad("total=1;tie tie;", 1, 12);
        bad("total=1;out if if<2;", 1, 15);
        bad("total=max(max,2);", 1, 13);
    }

    private static void openBrackets() {
        good("total=((((((1))))));", 1);
        bad("total=(((((((1)))))));", 1, 12);
        good("total=1;tie ((((((1))))));out if ((((((1))))))=((((((1))))));", 3);
        bad("total=1;tie (((((((1)))))));", 1, 18);
        good("total=((((((1))))))+((((((1))))));", 1);
        good("total=max(1,(((((1))))));", 1);
        bad("total=max(1,((((((1)))))));", 1, 17);
        good("total=max(max(max(max(max(max(1,2),3),4),5),6),7);", 1);
        bad("total=max(max(max(max(max(max(max(1,2),3),4),5),6),7),8);", 1, 33);
        bad("total=((((((max(1,2)))))));", 1, 15);
        bad("total=((((((max 1", 1, 16);
        bad("total=((((((", 1, 12);
        bad("total=((((((max", 1, 15);
        bad("total=1;out if ((((((1))))))<(((((((1", 1, 35);
    }

    private static void statementsAreTwentyFour() {
        good("total=1;" + "tie 1;".repeat(23), 24);
        good("total=1;" + "tie 1;".repeat(23) + " \n", 24);
        bad("total=1;" + "tie 1;".repeat(24), 1, 8 + 23 * 6);
        bad("total=1;" + "tie 1;".repeat(23) + "  marks=1;", 1, 8 + 23 * 6 + 2);
        bad("total=1;" + "tie 1;".repeat(23) + "abcdefghijklm", 1, 8 + 23 * 6);
        bad("total=1;" + "tie 1;".repeat(23) + ";", 1, 8 + 23 * 6);
        bad("tie 1;".repeat(24), 4, 24 * 6);
        bad("tie 1;".repeat(24) + "total=1;", 1, 24 * 6);
    }

    private static void divisionsByZero() {
        bad("total=1/0;", 2, 8);
        bad("total=1/ 00000;", 2, 9);
        bad("total=1/0", 2, 8);
        bad("total=1/0)", 2, 8);
        bad("total=1/2/0;", 2, 10);
        bad("total=(marks/0", 2, 13);
        good("total=0/1;", 1);
        good("total=1/10;", 1);
        good("total=1*0;", 1);
    }

    private static void namesInSums() {
        bad("total=x;", 3, 6);
        bad("total=total;", 3, 6);
        bad("total=1+total;", 3, 8);
        bad("total=y;y=1;", 3, 6);
        bad("total=mark;", 3, 6);
        bad("total=markss;", 3, 6);
        bad("total=time;", 3, 6);
        bad("total=start;", 3, 6);
        bad("tie total;total=1;", 3, 4);
        bad("out if total>1;total=1;", 3, 7);
        bad("total=1;out if 1<x;", 3, 17);
        bad("total=max(1, x);", 3, 13);
        bad("total=x(1);", 3, 6);
        good("x=1;total=x;tie x;out if x>total;", 4);
        good("x=1;y=x;total=y;tie total;", 4);
    }

    private static void namesThatAreGiven() {
        for (String count : COUNTS) {
            bad(count + "=1;total=1;", 3, 0);
        }
        bad("total=1;total=2;", 3, 8);
        bad("x=1;total=1; x=2;", 3, 13);
        bad("over4 = 1; total=1;", 3, 0);
        bad("marks;", 3, 0);
        bad("marks", 3, 0);
        bad("total=1;total=x;", 3, 8);
        good("markss=1;total=1;", 2);
    }

    private static void totalIsMissing() {
        bad("", 4, 0);
        bad("   ", 4, 3);
        bad("x=1;", 4, 4);
        bad("x=1;tie 2; \n", 4, 12);
        bad("totals=1;", 4, 9);
        bad("out if 1<2;", 4, 11);
    }

    private static void theFirstFaultAlongTheText() {
        bad("total=x/0;", 3, 6);
        bad("total=1/0+x;", 2, 8);
        bad("total=x;;", 3, 6);
        bad("total=1;;x=y;", 1, 8);
        bad("total=1/0;;", 2, 8);
        bad("y=1;;", 1, 4);
        bad("total=x 1;", 3, 6);
        bad("total=abcdefghijk/0;", 1, 16);
    }

    private static void everyByte() {
        String going = "\n ()*+-/;<=>,0123456789abcdefghijklmnopqrstuvwxyz";
        for (int b = 0; b < 256; b++) {
            ThreeDays x = new ThreeDays();
            boolean isBlank = b == 10 || b == 32;
            boolean isLetter = b >= 'a' && b <= 'z';
            Due.rules(x, (char) b + "total=1;");
            DUE.due("13: byte " + b + " at first", x.fault(0), isBlank ? 0 : isLetter ? 4 : 1);
            Due.rules(x, "total=1;" + (char) b);
            if (going.indexOf((char) b) < 0) {
                DUE.due("13: byte " + b + " goes nowhere", x.fault(1), 8);
            }
            DUE.due("13: byte " + b + " behind", x.fault(0) == 0, isBlank);
        }
    }

    private static void faultTells() {
        ThreeDays x = new ThreeDays();
        DUE.due("13: ahead of any", x.fault(0), 0);
        DUE.due("13: ahead of any", x.fault(1), -1);
        Due.rules(x, "total=q;");
        DUE.due("13: a fault", x.fault(0), 3);
        DUE.due("13: and asked again", x.fault(0), 3);
        DUE.due("13: its place", x.fault(1), 6);
        int[] wrong = {2, -1, 3, Integer.MAX_VALUE, Integer.MIN_VALUE};
        for (int what : wrong) {
            DUE.due("13: fault(" + what + ")", x.fault(what), -1);
        }
        Due.rules(x, "total=1;");
        DUE.due("13: the latest has none", x.fault(0), 0);
        DUE.due("13: the latest has none", x.fault(1), -1);
    }

    private static void rulesBeforeStay() {
        ThreeDays x = new ThreeDays();
        x.rider(-1);
        x.report(0, 0, 0, 7, 0);
        Due.rules(x, "a=marks*2;total=a+1;out if a=14;");
        DUE.due("16: total", x.total(0), 15);
        DUE.due("12: a fault", Due.rules(x, "b=1;total=2;c=3;out if 1>2;d=;"), -1);
        DUE.due("12: rules before stay", x.all(4), 3);
        DUE.due("16: total before stays", x.total(0), 15);
        DUE.due("17: out before stays", x.isOut(0), 1);
        DUE.due("15: a sum before stays", x.given(0, 0), 14);
        DUE.due("12: names of before are not known", Due.rules(x, "total=a;"), -1);
        DUE.due("12: new rules", Due.rules(x, "total=marks;"), 1);
        DUE.due("16: new total", x.total(0), 7);
        DUE.due("17: nobody is out", x.isOut(0), 0);
        DUE.due("15: no statement 1", x.given(0, 1), -2000000000000L);
        DUE.due("12: newer rules", Due.rules(x, "tie 1;total=marks+1;"), 2);
        DUE.due("16: newer total", x.total(0), 8);
        for (int n = 0; n < 3; n++) {
            DUE.due("12: no total in this one", Due.rules(x, "tie 2;"), -1);
            DUE.due("13: no total in this one", x.fault(0), 4);
        }
    }

    private static void theTapeGoes() {
        ThreeDays x = new ThreeDays();
        Due.rules(x, "total=1;");
        DUE.due("12: gone", x.end(1), false);
        DUE.due("12: from the first byte on", x.feed(1, 1, 1, 1, 1), 20);
        x.rules();
        DUE.due("13: bytes that go nowhere", x.fault(1), 0);
        DUE.due("12: gone with a fault", x.end(1), false);
        DUE.due("12: rules of nothing", x.rules(), -1);
        DUE.due("13: no total", x.fault(0), 4);
    }
}
