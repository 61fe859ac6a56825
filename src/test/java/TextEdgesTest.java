/** Terms III (the rules' text and its faults) and promises 12 and 13 at their edges. */
final class TextEdgesTest {
    private static final Edges EDGES = new Edges("TextEdgesTest");
    private static final String[] COUNTS = {"marks", "ring", "refusals", "falls", "missed", "first", "second",
        "third", "knocks", "looks", "retired", "unseen", "over", "under", "optimum"};
    private static final String[] KEPT = {"out", "if", "tie", "max", "min"};
    private static final String LETTERS = "abcdefghijklmnopqrstuvwxyz";
    private static final String[] WORDS = {"total", "=", "max", "(", "1", ",", "marks", ")", "*", "(", "2", "+",
        "ring", ")", "/", "3", "-", "min", "(", "4", ",", "5", ")", ";", "out", "if", "total", "<", "7", ";", "tie",
        "total", ";"};

    public static void main(String[] args) {
        blanksBetween();
        noOtherBlanks();
        sideBySide();
        oneToTenLetters();
        lettersAToZ();
        keptWords();
        oneToFiveDigits();
        digitsNoughtToNine();
        wholeAtTheirFirstByte();
        sixOpenAtOnce();
        twentyFourStatements();
        endsTooSoon();
        emptyTexts();
        longestTexts();
        byNought();
        noneOfTheCounts();
        givenAheadOfIt();
        givenAlready();
        totalIsGiven();
        theFirstAlongTheText();
        atOnePlace();
        rulesBeforeStay();
        atFirstThereAreNone();
        faultTells();
        EDGES.finish();
    }

    private static void good(String text, int statements) {
        ThreeDays x = new ThreeDays();
        EDGES.due("rules of '" + text + "'", Due.rules(x, text), statements);
        EDGES.due("fault of '" + text + "'", x.fault(0), 0);
        EDGES.due("place of '" + text + "'", x.fault(1), -1);
        EDGES.due("statements of '" + text + "'", x.all(4), statements);
    }

    private static void bad(String text, int fault, int place) {
        ThreeDays x = new ThreeDays();
        EDGES.due("rules of '" + text + "'", Due.rules(x, text), -1);
        EDGES.due("fault of '" + text + "'", x.fault(0), fault);
        EDGES.due("place of '" + text + "'", x.fault(1), place);
        EDGES.due("statements of '" + text + "'", x.all(4), 0);
    }

    /** All words with one blank between, and another in one gap. */
    private static String joined(int gap, String other) {
        StringBuilder text = new StringBuilder();
        for (int i = 0; i <= WORDS.length; i++) {
            text.append(i == gap ? other : " ").append(i < WORDS.length ? WORDS[i] : "");
        }
        return text.toString();
    }

    private static int placeOfGap(int gap) {
        int place = 0;
        for (int i = 0; i < gap; i++) {
            place += 1 + WORDS[i].length();
        }
        return place;
    }

    private static void blanksBetween() {
        EDGES.sentence("III: with blanks (10, 32) between where one likes");
        good(String.join("", WORDS).replace("outif", "out if").replace("iftotal", "if total").replace("tietotal", "tie total"), 3);
        String[] blanks = {" ", "\n", "  ", "\n\n", " \n ", " ".repeat(50), "\n".repeat(50)};
        for (String blank : blanks) {
            for (int gap = 0; gap <= WORDS.length; gap++) {
                good(joined(gap, blank), 3);
            }
        }
    }

    private static void noOtherBlanks() {
        EDGES.sentence("III: blanks (10, 32), and no other bytes");
        int[] others = {0, 8, 9, 11, 12, 13, 31, 33, 10 + 128, 32 + 128, 133, 255};
        for (int b : others) {
            for (int gap = 0; gap <= WORDS.length; gap++) {
                bad(joined(gap, "" + (char) b), 1, placeOfGap(gap));
                bad(joined(gap, " " + (char) b), 1, placeOfGap(gap) + 1);
            }
        }
    }

    private static void sideBySide() {
        EDGES.sentence("III: (two words, or two numbers, side by side need one)");
        good("total=1;out if marks<2;", 2);
        bad("total=1;outif marks<2;", 1, 14);
        bad("total=1;out ifmarks<2;", 1, 12);
        bad("total=1;outifmarks<2;", 1, 18);
        good("total=1;tie marks;", 2);
        bad("total=1;tiemarks;", 1, 16);
        good("total=1;tiemarks=3;", 2);
        good("total=1;tie max(1,2);", 2);
        bad("total=1;tiemax(1,2);", 1, 14);
        good("total=12;", 1);
        bad("total=1 2;", 1, 8);
        bad("total=1\n2;", 1, 8);
        good("total=1;tie5;", 2);
        good("total=1;out if5<6;", 2);
        bad("total=marks5;", 1, 11);
        bad("total=5marks;", 1, 7);
        bad("to tal=1;", 1, 3);
        bad("total=1;out i f 1<2;", 1, 12);
        bad("total=1;ti e 1;", 1, 11);
        bad("total=m ax(1,2);", 3, 6);
    }

    private static void oneToTenLetters() {
        EDGES.sentence("III: NAMES: 1 to 10 letters; FAULT 1: an 11th letter at itself");
        for (int n = 1; n <= 26; n++) {
            String name = LETTERS.substring(0, n);
            if (n <= 10) {
                good(name + "=1;total=" + name + ";tie " + name + ";", 3);
                bad(name, 1, n);
            } else {
                bad(name + "=1;total=1;", 1, 10);
                bad(" \n" + name + "=1;total=1;", 1, 12);
                bad("total=" + name + ";", 1, 16);
                bad("total=1+" + name, 1, 18);
                bad("total=1;tie " + name + ";", 1, 22);
                bad("total=1;out if " + name + "<1;", 1, 25);
                bad("total=1;out if 1>" + name + ";", 1, 27);
                bad("total=max(" + name + ",1);", 1, 20);
                bad(name, 1, 10);
            }
        }
        bad("total=1;" + "z".repeat(592), 1, 18);
        bad("optimumoptimum=1;", 1, 10);
        bad("total=retiredover;", 1, 16);
        good("abcdefghij=1;abcdefghik=2;bbcdefghij=3;total=abcdefghij+abcdefghik+bbcdefghij;", 4);
    }

    private static void lettersAToZ() {
        EDGES.sentence("III: letters a .. z");
        for (int i = 0; i < 26; i++) {
            String name = LETTERS.substring(i, i + 1);
            good(name + "=1;total=" + name + ";", 2);
        }
        int[] others = {'`', '{', 'A', 'Z', '@', '[', '_', 'a' - 32, 'a' + 128, 'z' + 128, 0xDF, 0xE4};
        for (int b : others) {
            bad((char) b + "=1;total=1;", 1, 0);
            bad("x" + (char) b + "=1;total=1;", 1, 1);
            bad("total=" + (char) b + ";", 1, 6);
            bad("total=marks" + (char) b + ";", 1, 11);
        }
    }

    private static void keptWords() {
        EDGES.sentence("III: NAMES: not out, if, tie, max, min");
        for (String word : KEPT) {
            boolean isStatement = word.equals("out") || word.equals("tie");
            bad(word + "=1;total=1;", 1, isStatement ? 3 : 0);
            boolean isPair = word.equals("max") || word.equals("min");
            bad("total=" + word + ";", 1, isPair ? 9 : 6);
            bad("total=1;tie " + word + ";", 1, isPair ? 15 : 12);
        }
        String[] names = {"ou", "outt", "oout", "i", "f", "iff", "ti", "ties", "ttie", "ma", "maxx", "mmax", "mi",
            "minn", "mmin", "outif", "maxmin", "xam", "fi", "eit"};
        for (String name : names) {
            good(name + "=1;total=" + name + ";", 2);
            bad("total=" + name + ";", 3, 6);
        }
    }

    private static void oneToFiveDigits() {
        EDGES.sentence("III: NUMBERS: 1 to 5 digits; FAULT 1: a 6th digit at itself");
        for (int n = 1; n <= 12; n++) {
            String[] numbers = {"123456789012".substring(0, n), "9".repeat(n), "0".repeat(n - 1) + "1"};
            for (String number : numbers) {
                if (n <= 5) {
                    good("total=" + number + ";tie 8/" + number + ";", 2);
                    ThreeDays x = new ThreeDays();
                    x.rider(-1);
                    Due.rules(x, "total=" + number + ";");
                    EDGES.due("total=" + number, x.total(0), Integer.parseInt(number));
                } else {
                    bad("total=" + number + ";", 1, 11);
                    bad("total=" + number, 1, 11);
                    bad("total=1/" + number + ";", 1, 13);
                    bad("total=1/ " + number, 1, 14);
                    bad("total=max(1," + number + ");", 1, 17);
                    bad("total=1;out if 1<" + number + ";", 1, 22);
                }
            }
        }
        good("total=00000;", 1);
        bad("total=000000;", 1, 11);
        bad("total=1/000000;", 1, 13);
        bad("total=" + "7".repeat(594), 1, 11);
        bad("total=4294967297;", 1, 11);
        bad("total=18446744073709551617;", 1, 11);
    }

    private static void digitsNoughtToNine() {
        EDGES.sentence("III: digits");
        for (int digit = 0; digit <= 9; digit++) {
            good("total=" + digit + ";", 1);
        }
        bad("total=:;", 1, 6);
        bad("total=/;", 1, 6);
        bad("total=1:;", 1, 7);
        bad("total=1.5;", 1, 7);
        bad("total=" + (char) ('1' + 128) + ";", 1, 6);
        bad("total=" + (char) 0xB2 + ";", 1, 6);
    }

    private static void wholeAtTheirFirstByte() {
        EDGES.sentence("III: FAULT 1: words and numbers whole, at their first byte");
        bad("total=1 marks;", 1, 8);
        bad("total=1 x;", 1, 8);
        bad("total=1 out;", 1, 8);
        bad("total=marks 1;", 1, 12);
        bad("total=marks 12345;", 1, 12);
        bad("total=marks 123456;", 1, 12);
        bad("total=1 abcdefghijk;", 1, 8);
        bad("12345=1;", 1, 0);
        bad("1234567=1;", 1, 0);
        bad("total 7;", 1, 6);
        bad("total seven;", 1, 6);
        bad("total=1;out marks<1;", 1, 12);
        bad("total=1;out iff 1<2;", 1, 12);
        bad("total=1;out i", 1, 12);
        bad("total=1;out tie 1<2;", 1, 12);
        bad("total=1;out 1<2;", 1, 12);
        bad("total=1/marks;", 1, 8);
        bad("total=1/q;", 1, 8);
        bad("total=max 1;", 1, 10);
        bad("total=max marks;", 1, 10);
        bad("total=max max;", 1, 10);
        bad("ifx 1;", 1, 4);
        bad("if x=1;", 1, 0);
        bad("  if", 1, 2);
        bad("maxi", 1, 4);
        bad("  max", 1, 2);
    }

    private static void sixOpenAtOnce() {
        EDGES.sentence("III: FAULT 1: the 7th ( that is open at once");
        String[] heads = {"total=", "total=1;tie ", "total=1;out if ", "total=1;out if ((((((1))))))=", "total=1+",
            "total=((((((2))))))*", "total=max(1,2)-"};
        String[] tails = {";", ";", "<1;", ";", ";", ";", ";"};
        int[] statements = {1, 2, 2, 2, 1, 1, 1};
        for (int i = 0; i < heads.length; i++) {
            for (int open = 0; open <= 9; open++) {
                String text = heads[i] + "(".repeat(open) + "1" + ")".repeat(open) + tails[i];
                String pairs = heads[i] + "min(".repeat(open) + "1" + ",2)".repeat(open) + tails[i];
                String seconds = heads[i] + "max(1,".repeat(open) + "1" + ")".repeat(open) + tails[i];
                if (open <= 6) {
                    good(text, statements[i]);
                    good(pairs, statements[i]);
                    good(seconds, statements[i]);
                } else {
                    bad(text, 1, heads[i].length() + 6);
                    bad(pairs, 1, heads[i].length() + 6 * 4 + 3);
                    bad(seconds, 1, heads[i].length() + 6 * 6 + 3);
                }
            }
        }
        bad("total=(((((((", 1, 12);
        bad("total=((((((", 1, 12);
        bad("total=((((((max(1,2)))))));", 1, 15);
        bad("total=((((((max", 1, 15);
        bad("total=((((((min x", 1, 16);
        good("total=(((((max(1,2))))));", 1);
        good("total=(((((1)+(2)+(3))))+((5)));", 1);
        bad("total=((((((1)+(2)+((3)))))));", 1, 20);
        good("total=" + "(1)+".repeat(100) + "1;", 1);
    }

    private static void twentyFourStatements() {
        EDGES.sentence("III: FAULT 1: a 25th STATEMENT at its first byte");
        String[] forms = {"tie 1;", "out if 1<2;"};
        for (String form : forms) {
            for (int n = 0; n <= 23; n++) {
                good("total=1;" + form.repeat(n), n + 1);
                good(form.repeat(n) + "total=1;\n", n + 1);
            }
            int length = 8 + 23 * form.length();
            String[] more = {form, "x=1;", "x", "tie", "out", "if", "max", "marks=1;", "total=2;", "abcdefghijk", "1",
                "123456", ";", "=", "(", "?", "\t"};
            for (String behind : more) {
                bad("total=1;" + form.repeat(23) + behind, 1, length);
                bad("total=1;" + form.repeat(23) + " \n " + behind, 1, length + 3);
            }
            good("total=1;" + form.repeat(23) + " \n ", 24);
        }
        StringBuilder names = new StringBuilder();
        for (int k = 0; k < 23; k++) {
            names.append(LETTERS.charAt(k)).append('=').append(k).append(';');
        }
        good(names + "total=a+w;", 24);
        bad(names + "total=a+w;x=1;", 1, names.length() + 10);
        bad("x=1;" + names + "total=a+w;", 1, names.length() + 4);
        bad("tie 1;".repeat(24), 4, 144);
        bad("tie 1;".repeat(24) + "total=1;", 1, 144);
        bad("tie 1;".repeat(25), 1, 144);
    }

    private static void endsTooSoon() {
        EDGES.sentence("III: FAULT 1: at the text's length, if it ends too soon");
        String text = "total=max(1,marks)*(2+ring)/3-min(4,5);out if total<7;tie total;tot=8;";
        int[][] names = {{6, 9}, {12, 17}, {22, 26}, {30, 33}, {46, 51}, {58, 63}};
        for (int n = 0; n <= text.length(); n++) {
            for (int blanks = 0; blanks <= 2; blanks++) {
                String cut = text.substring(0, n) + " ".repeat(blanks);
                int fault = 1;
                int place = n + blanks;
                for (int[] name : names) {
                    if (n > name[0] && n < name[1]) {
                        fault = 3;
                        place = name[0];
                    }
                }
                if (n == 44) {
                    place = 43;
                }
                if (n == 0) {
                    fault = 4;
                }
                if (n == 39 || n == 54 || n == 64 || n == 70) {
                    good(cut, n == 39 ? 1 : n == 54 ? 2 : n == 64 ? 3 : 4);
                } else {
                    bad(cut, fault, place);
                }
            }
        }
        String[] texts = {"x", "x=", "x=1", "x=1+", "x=1-", "x=1*", "x=1/", "x=1/2", "x=(", "x=(1", "x=(1)", "x=max",
            "x=max(", "x=max(1", "x=max(1,", "x=max(1,2", "x=max(1,2)", "out", "out if", "out if 1", "out if 1<",
            "out if 1<2", "tie", "tie 1"};
        for (String cut : texts) {
            bad("total=1;" + cut, 1, 8 + cut.length());
            bad(cut, 1, cut.length());
            bad(cut + "\n", 1, cut.length() + 1);
        }
    }

    private static void emptyTexts() {
        EDGES.sentence("III: an empty text has no total: FAULT 4 at the text's length");
        bad("", 4, 0);
        int[] lengths = {1, 2, 19, 20, 21, 599, 600};
        for (int n : lengths) {
            bad(" ".repeat(n), 4, n);
            bad("\n".repeat(n), 4, n);
        }
        ThreeDays x = new ThreeDays();
        EDGES.due("rules() of a new one", x.rules(), -1);
        EDGES.due("its fault", x.fault(0), 4);
        EDGES.due("its place", x.fault(1), 0);
    }

    private static void longestTexts() {
        EDGES.sentence("2, 12: a text of 600 bytes");
        good(" ".repeat(592) + "total=1;", 1);
        good("total=1;" + " ".repeat(592), 1);
        bad(" ".repeat(593) + "total=1", 1, 600);
        bad(" ".repeat(599) + "x", 1, 600);
        bad(" ".repeat(599) + "?", 1, 599);
        bad(" ".repeat(592) + "total=x;", 3, 598);
        bad(" ".repeat(590) + "total=1/0;", 2, 598);
        bad(" ".repeat(592) + "tota =1;", 4, 600);
        String ones = "1+".repeat(296);
        good("total=" + ones + "1;", 1);
        bad("total=" + ones + "11", 1, 600);
        good("tie 1;".repeat(23) + " ".repeat(600 - 138 - 8) + "total=1;", 24);
    }

    private static void byNought() {
        EDGES.sentence("III: FAULT 2: a / by 0, at the number");
        String[] noughts = {"0", "00", "000", "0000", "00000"};
        for (String nought : noughts) {
            bad("total=1/" + nought + ";", 2, 8);
            bad("total=1/ \n" + nought + ";", 2, 10);
            bad("total=1;tie 2*3/" + nought, 2, 16);
            bad("total=max(1/" + nought + ",1);", 2, 12);
            bad("total=1;out if 1<2/" + nought + ";", 2, 19);
            good("total=1/" + nought.substring(1) + "1;", 1);
            good("total=" + nought + "/1;", 1);
            good("total=1*" + nought + ";", 1);
            good("total=1-" + nought + ";", 1);
        }
        bad("total=0/0;", 2, 8);
        bad("total=1/0000;", 2, 8);
        good("total=1/10000;", 1);
        good("total=1/99999;", 1);
        bad("total=1/2/3/0;", 2, 12);
        bad("total=1/2/0/0;", 2, 10);
    }

    private static void noneOfTheCounts() {
        EDGES.sentence("III: FAULT 3: a NAME in a SUM that is none of the 15 COUNTS");
        for (String count : COUNTS) {
            good("total=" + count + ";", 1);
            good("tie " + count + ";total=1;", 2);
            good("out if " + count + "=" + count + ";total=1;", 2);
            String shorter = count.substring(0, count.length() - 1);
            bad("total=" + shorter + ";", 3, 6);
            bad("total=" + count + "s;", 3, 6);
            bad("total=x" + count + ";", 3, 6);
            good(shorter + "=1;" + count + "s=2;total=" + shorter + "+" + count + "s+" + count + ";", 3);
        }
        String[] others = {"start", "finish", "time", "total", "place", "holds", "knock", "a", "z", "abcdefghij"};
        for (String other : others) {
            bad("total=" + other + ";", 3, 6);
            bad("total=1+" + other + ";", 3, 8);
            bad("total= (" + other + ");", 3, 8);
            bad("total=min(1, " + other + ");", 3, 13);
            bad("tie " + other + ";", 3, 4);
            bad("out if " + other + "<1;", 3, 7);
            bad("out if 1>" + other + ";", 3, 9);
        }
    }

    private static void givenAheadOfIt() {
        EDGES.sentence("III: FAULT 3: and was given no SUM ahead of it");
        good("x=1;total=x;", 2);
        bad("total=x;x=1;", 3, 6);
        bad("x=x;total=1;", 3, 2);
        bad("x=1+(2*x);total=1;", 3, 7);
        bad("total=total;", 3, 6);
        good("total=1;tie total;", 2);
        bad("tie total;total=1;", 3, 4);
        good("x=1;y=x;z=y;total=z;", 4);
        bad("x=1;y=z;z=y;total=z;", 3, 6);
        ThreeDays x = new ThreeDays();
        Due.rules(x, "x=1;total=x;");
        EDGES.due("names of the rules before", Due.rules(x, "total=x;"), -1);
        EDGES.due("are not known: fault", x.fault(0), 3);
        EDGES.due("are not known: place", x.fault(1), 6);
        Due.rules(x, "y=1;total=y;?");
        EDGES.due("names of a text with a fault", Due.rules(x, "total=y;"), -1);
        EDGES.due("are not known either", x.fault(0), 3);
        EDGES.due("nor total", Due.rules(x, "tie total;total=1;"), -1);
        EDGES.due("nor total: place", x.fault(1), 4);
        EDGES.due("but can be given anew", Due.rules(x, "x=1;y=2;total=x+y;"), 3);
    }

    private static void givenAlready() {
        EDGES.sentence("III: FAULT 3: or one that is given a SUM and is a COUNT, or was given one already, at its first byte");
        for (String count : COUNTS) {
            bad(count + "=1;total=1;", 3, 0);
            bad("total=1; \n" + count + " = 1;", 3, 10);
            bad("total=1;" + count + "=" + count + ";", 3, 8);
            bad("total=1;" + count + "=?;", 3, 8);
        }
        bad("total=1;total=1;", 3, 8);
        bad("total=1;total=total;", 3, 8);
        bad("x=1;total=1;x=2;", 3, 12);
        bad("x=1;y=2;y=3;x=4;total=5;", 3, 8);
        good("x=1;xx=2;xxx=3;total=4;", 4);
        StringBuilder names = new StringBuilder();
        for (int k = 0; k < 22; k++) {
            names.append(LETTERS.charAt(k)).append("=1;");
        }
        names.append("total=1;");
        for (int k = 0; k < 22; k++) {
            bad(names + LETTERS.substring(k, k + 1) + "=2;", 3, names.length());
        }
        good(names + "z=2;", 24);
    }

    private static void totalIsGiven() {
        EDGES.sentence("III: FAULT 4: total was given no SUM, at the text's length");
        good("total=1;", 1);
        good("total=1;tie 1;tie 2;", 3);
        good("tie 1;total=1;tie 2;", 3);
        good("tie 1;tie 2;total=1;", 3);
        String[] texts = {"tie 1;", "out if 1<2;", "x=1;", "totals=1;", "tota=1;", "totaltotal=1;", "a=1;b=a;tie b;"};
        for (String text : texts) {
            bad(text, 4, text.length());
            bad(text + " ", 4, text.length() + 1);
            bad("\n" + text + "\n\n", 4, text.length() + 3);
        }
    }

    private static void theFirstAlongTheText() {
        EDGES.sentence("III: FAULTS, the first along the text");
        String[] faulty = {"tie 1/0;", "tie q;", "tie );", "marks=1;", "tie 123456;", "abcdefghijk=1;",
            "tie (((((((1)))))));", "total=2;", "out 1<2;", "tie abcdefghijk;", "?", ";"};
        int[] faults = {2, 3, 1, 3, 1, 1, 1, 3, 1, 1, 1, 1};
        int[] places = {6, 4, 4, 0, 9, 10, 10, 0, 4, 14, 0, 0};
        for (int i = 0; i < faulty.length; i++) {
            for (String behind : faulty) {
                bad("total=1;" + faulty[i] + behind, faults[i], 8 + places[i]);
                bad("total=1;tie 7;" + faulty[i] + behind, faults[i], 14 + places[i]);
            }
            boolean isSecondTotal = faulty[i].startsWith("total");
            if (!isSecondTotal) {
                bad("tie 7;" + faulty[i], faults[i], 6 + places[i]);
            }
        }
        bad("total=q/0;", 3, 6);
        bad("total=1/0+q;", 2, 8);
        bad("total=q);", 3, 6);
        bad("total=1/0);", 2, 8);
        bad("total=1)+q;", 1, 7);
        bad("total=1)/0;", 1, 7);
        bad("total=q", 3, 6);
        bad("total=1/0", 2, 8);
        bad("x=1;y=q;", 3, 6);
        bad("x=1;y=1/0;", 2, 8);
        bad("total=(((((((q)))))));", 1, 12);
        bad("total=((((((q))))))+(((((((1)))))));", 3, 12);
        bad("total=1/0+(((((((1)))))));", 2, 8);
        bad("total=123456/0;", 1, 11);
        bad("total=1/0+123456;", 2, 8);
    }

    private static void atOnePlace() {
        EDGES.sentence("III: a text that ends too soon is none, so it is that FAULT that is told at its length");
        bad("x=1", 1, 3);
        bad("tie", 1, 3);
        bad("tie 1;x", 1, 7);
        bad("out if 1", 1, 8);
    }

    private static void rulesBeforeStay() {
        EDGES.sentence("III, 12: with a FAULT the RULES before stay; NONE with a FAULT");
        String[] texts = {"", "total=9;?", "total=9;tie 1/0;", "total=q;", "total=9;marks=1;", "tie 3;out if 1=1;",
            "total=9;out if 1=1", "total=9;tie 1;tie 2;out if 1=1;total=8;", "a=5;total=a;" + "tie 4;".repeat(23),
            "total=(((((((9)))))));", "total=123456;", "abcdefghijk=1;", "out if 1=1;out if 1=1;out if 1=1;x=1;y=2;"};
        for (String text : texts) {
            Edges.Calls before = Edges::busy;
            EDGES.answers("rules of '" + text + "'", before, x -> Due.rules(x, text), -1);
            EDGES.alikeButForFaults("rules of '" + text + "' did nothing", x -> {
                before.on(x);
                Due.rules(x, text);
            }, x -> {
                before.on(x);
                x.end(0);
            });
            EDGES.alikeButForFaults("twice '" + text + "' did nothing", x -> {
                Edges.busyBefore(x);
                Due.rules(x, text);
                Due.rules(x, text);
            }, x -> {
                Edges.busyBefore(x);
                x.end(0);
            });
        }
        ThreeDays x = new ThreeDays();
        x.rider(-1);
        for (int n = 1; n <= 8; n++) {
            EDGES.due("rules " + n, Due.rules(x, "total=" + n + ";"), 1);
            EDGES.due("a fault between", Due.rules(x, "total=0;tie"), -1);
            EDGES.due("they stay", x.total(0), n);
        }
    }

    private static void atFirstThereAreNone() {
        EDGES.sentence("III: at first there are none: total is 0, nobody is OUT");
        ThreeDays x = new ThreeDays();
        x.rider(0);
        x.rider(1);
        x.report(0, 0, 0, 10000, 0);
        x.report(0, 11, 0, 0, 0);
        for (int round = 0; round < 2; round++) {
            EDGES.due("statements", x.all(4), 0);
            for (int r = 0; r < 2; r++) {
                EDGES.due("total of " + r, x.total(r), 0);
                EDGES.due("out of " + r, x.isOut(r), 0);
                EDGES.due("place of " + r, x.place(r), 1);
                EDGES.due("ring " + r, x.ring(r), 1 - r);
                EDGES.due("given of " + r, x.given(r, 0), -2000000000000L);
                EDGES.due("team " + r, x.team(r), 20000);
            }
            EDGES.due("against", x.against(0, 1), 0);
            EDGES.due("a fault leaves none", Due.rules(x, "total=marks;out if 1=1"), -1);
        }
    }

    private static void faultTells() {
        EDGES.sentence("13: of the latest rules(): its FAULT (what 0), its place (1); NONE for another what");
        int[] wrong = {-1, -2, 2, 3, 256, Integer.MIN_VALUE, Integer.MAX_VALUE};
        for (int what : wrong) {
            EDGES.answers("fault(" + what + ") of a new one", Edges::empty, x -> x.fault(what), -1);
            EDGES.answers("fault(" + what + ") without one", x -> Due.rules(x, "total=1;"), x -> x.fault(what), -1);
            EDGES.answers("fault(" + what + ") with one", x -> Due.rules(x, "total=x;"), x -> x.fault(what), -1);
        }
        EDGES.answers("ahead of any", Edges::empty, x -> x.fault(0), 0);
        EDGES.answers("ahead of any, its place", Edges::empty, x -> x.fault(1), -1);
        EDGES.answers("a text fed and not read", x -> Due.feed(x, "?"), x -> x.fault(0), 0);
        String[] texts = {"?", "total=1;", "total=1/0;", "total=2;", "total=x;", "total=3;", "", "total=4;"};
        int[] faults = {1, 0, 2, 0, 3, 0, 4, 0};
        int[] places = {0, -1, 8, -1, 6, -1, 0, -1};
        ThreeDays x = new ThreeDays();
        for (int i = 0; i < texts.length; i++) {
            Due.rules(x, texts[i]);
            for (int round = 0; round < 2; round++) {
                EDGES.due("the latest, " + texts[i], x.fault(0), faults[i]);
                EDGES.due("its place, " + texts[i], x.fault(1), places[i]);
                x.rider(-1);
                x.fence(1);
                x.feed(0, 0, 0, 0, 0);
            }
        }
    }
}
