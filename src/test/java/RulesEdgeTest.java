/** The edges that the terms name for the tape, rules and their FAULTS, tests, CLOSED and OPEN (promises 17 to 22). */
public final class RulesEdgeTest {
    private static final Check CHECK = new Check();
    private static final int CANNOT_STAND = 0;
    private static final int MORE_DIGITS = 1;
    private static final int TOO_DEEP = 2;
    private static final int NINTH = 3;
    private static final int TWENTY_FIFTH = 4;

    public static void main(String[] args) {
        tapeBytes();
        fullTape();
        blanks();
        wordsByTheirLetters();
        signsAndNumbers();
        everyByteAtEveryPlace();
        depthOfTen();
        eightClauses();
        twentyFour();
        leastOfOnePlace();
        firstAlongIt();
        faultsCountNothing();
        tenRules();
        rulesAsKnown();
        testsTaken();
        untested();
        testsAsKnown();
        fullOfTests();
        clausesInOrder();
        textsOfTheSharedTest();
        closedWhere();
        openAtTheFarEnd();
        CHECK.finish();
    }

    private static void due(String what, long got, long want) {
        CHECK.due(what, got, want);
    }

    private static void clauses(String text, int want) {
        due("clauses of " + text, RulesTest.tell(new PoolCoast(), text), want);
    }

    private static void fault(String text, int place, int kind) {
        due("fault of " + text, RulesTest.tell(new PoolCoast(), text), -2 - (1 + 8 * place + kind));
    }

    /** A pool in a quiet sea at depth 50. */
    private static PoolCoast quiet() {
        PoolCoast x = new PoolCoast();
        x.turn(0, -500);
        x.set(0, 0);
        x.pool(10, 0, 100, 100, 0, 0, 50);
        return x;
    }

    private static void tapeBytes() {
        PoolCoast x = new PoolCoast();
        due("empty", x.count(7), 0);
        due("end of it", x.end(0), 0);
        due("behind its end", x.end(1), -1);
        // "day<", "1;ho", "ur<2", "3;se", "a<0 "
        due("twenty bytes", x.feed(0x6461793c, 0x313b686f, 0x75723c32, 0x333b7365, 0x613c3020), 20);
        due("all of them in their order", x.rules(), 3);
        due("empty again", x.count(7), 0);
        due("empty, so no end", x.end(1), -1);
        x.feed(0x6461793c, 0x313b686f, 0x75723c32, 0x333b7365, 0x613c3020);
        due("cut to the first 5", x.end(5), 5);
        due("the first 5", x.rules(), 1);
        x.feed(0x6461793c, 0x313b686f, 0x75723c32, 0x333b7365, 0x613c3020);
        x.end(13);
        // "9   " behind "day<1;hour<23", and that is a NUMBER of four digits at most
        due("behind the 13", x.feed(0x39202020, 0x20202020, 0x20202020, 0x20202020, 0x20202020), 33);
        due("the end as it was", x.end(33), 33);
        due("joined", x.rules(), 2);
        x.feed(0x64617979, 0x79797979, 0x79797979, 0x79797979, 0x79797979);
        due("letters", x.end(3), 3);
        due("a WORD has none of the letters that were cut off", x.rules(), -2 - (1 + 8 * 3));
        x.feed(0x6461793c, 0x31323334, 0x35363738, 0x39303132, 0x33343536);
        due("digits", x.end(8), 8);
        due("a NUMBER has none of the digits that were cut off", x.rules(), 1);
        x.feed(-1, 0, 0, 0, 0);
        due("byte 255", x.rules(), -2 - 1);
        x.feed(0x20202020, 0x20ff2020, 0, 0, 0);
        due("byte 255 at place 5", x.rules(), -2 - (1 + 8 * 5));
    }

    private static void fullTape() {
        PoolCoast x = new PoolCoast();
        for (int i = 1; i <= 14; i++) {
            due("feed", x.feed(0x20202020, 0x20202020, 0x20202020, 0x20202020, 0x20202020), 20 * i);
        }
        due("up to 300", x.feed(0x20202020, 0x20202020, 0x20202020, 0x20202020, 0x6461793c), 300);
        due("301st byte", x.feed(0, 0, 0, 0, 0), -1);
        due("the end at 300", x.rules(), -2 - (1 + 8 * 300));
        RulesTest.put(x, " ".repeat(295) + "day<1");
        due("300 bytes", x.count(7), 300);
        due("one clause at the end of them", x.rules(), 1);
        RulesTest.put(x, " ".repeat(299) + "d");
        due("a word cut off", x.rules(), -2 - (1 + 8 * 299));
        RulesTest.put(x, " ".repeat(295) + "day<1");
        due("cut", x.end(299), 299);
        due("the end at 299", x.rules(), -2 - (1 + 8 * 299));
        RulesTest.put(x, " ".repeat(300));
        due("300 blanks", x.rules(), 0);
    }

    private static void blanks() {
        clauses("", 0);
        clauses(" ", 0);
        clauses(" day < 1 ", 1);
        clauses("day<1;day<1", 2);
        clauses("day<1 ; day<1", 2);
        clauses("( day<1 )", 1);
        clauses("not( not(not day<1))", 1);
        clauses("day<1and hour<1or age<1", 1);
        fault("\t", 0, CANNOT_STAND);
        fault("\n", 0, CANNOT_STAND);
        fault(";", 0, CANNOT_STAND);
        fault(" ;", 1, CANNOT_STAND);
        fault("day<1; ;", 7, CANNOT_STAND);
        fault("day<1; ", 7, CANNOT_STAND);
        fault("d ay<1", 0, CANNOT_STAND);
        fault("day<1 1", 6, CANNOT_STAND);
        fault("day< =1", 5, CANNOT_STAND);
        fault("day> =1", 5, CANNOT_STAND);
    }

    private static void wordsByTheirLetters() {
        String[] words = {"depth", "sea", "wave", "age", "dirt", "hour", "day", "test"};
        for (String word : words) {
            clauses(word + "<1", 1);
            clauses(word + "=9999", 1);
            fault(word.substring(1) + "<1", 0, CANNOT_STAND);
            fault(word.substring(0, word.length() - 1) + "<1", 0, CANNOT_STAND);
            fault(word + word.charAt(0) + "<1", 0, CANNOT_STAND);
            fault("x" + word.substring(1) + "<1", 0, CANNOT_STAND);
            fault(word.substring(0, word.length() - 1) + "x<1", 0, CANNOT_STAND);
            fault(word.toUpperCase() + "<1", 0, CANNOT_STAND);
            fault(word, word.length(), CANNOT_STAND);
            fault(word + word + "<1", 0, CANNOT_STAND);
        }
        fault("and", 0, CANNOT_STAND);
        fault("or", 0, CANNOT_STAND);
        fault("not and", 4, CANNOT_STAND);
        fault("day<1 xnd day<1", 6, CANNOT_STAND);
        fault("day<1 xr day<1", 6, CANNOT_STAND);
        fault("xot day<1", 0, CANNOT_STAND);
        fault("day<1 an day<1", 6, CANNOT_STAND);
        fault("day<1 ands day<1", 6, CANNOT_STAND);
        fault("day<1 o day<1", 6, CANNOT_STAND);
        fault("day<1 not", 6, CANNOT_STAND);
        fault("day<1 (", 6, CANNOT_STAND);
        fault("day<1 day", 6, CANNOT_STAND);
        fault("day<1 or or", 9, CANNOT_STAND);
        fault("day<1 and and", 10, CANNOT_STAND);
        fault("day<1 and", 9, CANNOT_STAND);
        fault("not", 3, CANNOT_STAND);
        fault("not;", 3, CANNOT_STAND);
    }

    private static void signsAndNumbers() {
        for (String sign : new String[] {"<", "<=", "=", ">=", ">"}) {
            for (String number : new String[] {"0", "9", "00", "9999", "0000", "0009"}) {
                clauses("day" + sign + number, 1);
                clauses("day " + sign + " " + number + " ", 1);
            }
            fault("day" + sign, 3 + sign.length(), CANNOT_STAND);
            fault("day" + sign + " ", 4 + sign.length(), CANNOT_STAND);
            fault("day" + sign + "-1", 3 + sign.length(), CANNOT_STAND);
            fault("day" + sign + "a", 3 + sign.length(), CANNOT_STAND);
            fault("day" + sign + "10000", 3 + sign.length(), MORE_DIGITS);
            fault("day" + sign + "00000", 3 + sign.length(), MORE_DIGITS);
            fault("day" + sign + " 1234567890123", 4 + sign.length(), MORE_DIGITS);
            clauses("day" + sign + "1234 ", 1);
            fault("day" + sign + "1234 5", 8 + sign.length(), CANNOT_STAND);
        }
        for (String sign : new String[] {"==", "=<", "=>", "<>", "><", "<<", ">>"}) {
            fault("day" + sign + "1", 4, CANNOT_STAND);
        }
        for (String sign : new String[] {"<==", ">==", "<=>"}) {
            fault("day" + sign + "1", 5, CANNOT_STAND);
        }
        fault("day!1", 3, CANNOT_STAND);
        fault("day/1", 3, CANNOT_STAND);
        fault("day<:", 4, CANNOT_STAND);
        fault("day</", 4, CANNOT_STAND);
    }

    /** A byte that can't stand anywhere is a FAULT wherever it stands, but where a WORD is cut off ahead of it. */
    private static void everyByteAtEveryPlace() {
        String text = "( day < 12 ) ; hour = 3 ";
        for (int place = 0; place <= text.length(); place++) {
            fault(text.substring(0, place) + (char) 233, faultOfPart(text, place), CANNOT_STAND);
        }
        for (int each = 0; each < 256; each++) {
            boolean blank = each == ' ';
            boolean digit = each >= '0' && each <= '9';
            boolean clause = each == ';';
            String with = "day<1" + (char) each;
            int place = clause ? 6 : 5;
            int want = blank || digit ? 1 : -2 - (1 + 8 * place);
            due("byte " + each + " behind a NUMBER", RulesTest.tell(new PoolCoast(), with), want);
            int first = blank ? 0 : each == '(' ? -2 - (1 + 8) : -2 - 1;
            due("byte " + each + " alone", RulesTest.tell(new PoolCoast(), "" + (char) each), first);
        }
    }

    /** A WORD that is cut off stands where it begins. */
    private static int faultOfPart(String text, int place) {
        int start = place;
        while (start > 0 && Character.isLetter(text.charAt(start - 1))) {
            start--;
        }
        String word = text.substring(start, place);
        return word.isEmpty() || word.equals("day") || word.equals("hour") ? place : start;
    }

    private static void depthOfTen() {
        for (int nots = 0; nots <= 10; nots++) {
            String open = "not ".repeat(nots) + "(".repeat(10 - nots);
            String shut = ")".repeat(10 - nots);
            clauses(open + "day<1" + shut, 1);
            clauses(open + "day<1 or day<1 and day<1" + shut, 1);
            clauses(open + "day<1" + shut + "or " + open + "day<1" + shut, 1);
            clauses(open + "day<1" + shut + ";" + open + "day<1" + shut, 2);
            fault(open + "(", open.length(), TOO_DEEP);
            fault(open + "not", open.length(), TOO_DEEP);
            fault(open + " not day<1", open.length() + 1, TOO_DEEP);
            fault(open, open.length(), CANNOT_STAND);
            fault(open + "nota", open.length(), CANNOT_STAND);
            fault(open + ")", open.length(), CANNOT_STAND);
            if (nots < 10) {
                fault(open + "day<1 and (", open.length() + 10, TOO_DEEP);
                fault(open + "day<1" + ")".repeat(9 - nots), open.length() + 5 + 9 - nots, CANNOT_STAND);
            }
            fault(open + "day<1" + shut + ")", open.length() + 5 + shut.length(), CANNOT_STAND);
        }
        clauses("not not not not not not not not not not day<1 and not day<1", 1);
        clauses("(((((((((not day<1 or not day<1)))))))))", 1);
        fault("(((((((((not day<1 or not not", 26, TOO_DEEP);
    }

    private static void eightClauses() {
        String text = "";
        for (int n = 1; n <= 8; n++) {
            text = text + (n == 1 ? "" : ";") + "day<1";
            clauses(text, n);
        }
        fault(text + ";", 48, CANNOT_STAND);
        fault(text + "; ", 49, CANNOT_STAND);
        fault(text + ";day<1", 48, NINTH);
        fault(text + "; not day<1", 49, NINTH);
        fault(text + ";  (day<1)", 50, NINTH);
        fault(text + ";day", 48, NINTH);
        fault(text + ";dax", 48, CANNOT_STAND);
        fault(text + ";and", 48, CANNOT_STAND);
        fault(text + ";;", 48, CANNOT_STAND);
        fault(text + ";7", 48, CANNOT_STAND);
        fault(text + ")", 47, CANNOT_STAND);
    }

    private static void twentyFour() {
        String eight = "day<1or day<1or day<1or day<1or day<1or day<1or day<1or day<1";
        String all = eight + ";" + eight + ";" + eight;
        clauses(all, 3);
        fault(all + "or day<1", all.length() + 3, TWENTY_FIFTH);
        fault(all + ";day<1", all.length() + 1, TWENTY_FIFTH);
        fault(all + "and not(day<1", all.length() + 8, TWENTY_FIFTH);
        fault(all + "or  day", all.length() + 4, TWENTY_FIFTH);
        fault(all + "or dax", all.length() + 3, CANNOT_STAND);
        fault(all + "or", all.length() + 2, CANNOT_STAND);
        fault(all + "or not", all.length() + 6, CANNOT_STAND);
        PoolCoast x = new PoolCoast();
        for (int i = 0; i < 3; i++) {
            due("24 in each text", RulesTest.tell(x, all), 3);
            due("a fault between them", RulesTest.tell(x, all + "or day"), -2 - (1 + 8 * (all.length() + 3) + 4));
        }
    }

    private static void leastOfOnePlace() {
        String eight = "day<1or day<1or day<1or day<1or day<1or day<1or day<1or day<1";
        String full = eight + ";" + eight + ";day<1or day<1or day<1;day<1;day<1;day<1;day<1;day<1";
        clauses(full, 8);
        fault(full + ";day<1", full.length() + 1, NINTH);
        fault(full + ";(", full.length() + 1, NINTH);
        fault(full + ";", full.length() + 1, CANNOT_STAND);
        fault(full + ";or", full.length() + 1, CANNOT_STAND);
        fault(full + "or day<1", full.length() + 3, TWENTY_FIFTH);
    }

    /** What is wrong ahead is told, whatever is wrong behind. */
    private static void firstAlongIt() {
        fault("day<12345 and (((((((((((", 4, MORE_DIGITS);
        fault("((((((((((( day<12345", 10, TOO_DEEP);
        fault("dax<12345", 0, CANNOT_STAND);
        fault("day<1 and foo<12345;;;;;;;;;", 10, CANNOT_STAND);
        fault("day<;day<12345", 4, CANNOT_STAND);
        fault("day<1;day<12345;foo", 10, MORE_DIGITS);
    }

    private static void faultsCountNothing() {
        PoolCoast x = quiet();
        RulesTest.tell(x, "depth=50");
        due("closed", x.closed(0, 0, 0), 1);
        due("a fault", RulesTest.tell(x, "day<1;day<1;foo"), -2 - (1 + 8 * 12));
        due("rules", x.count(4), 1);
        due("the tape is empty", x.count(7), 0);
        due("closed as ahead", x.closed(0, 0, 0), 1);
        due("the next text", RulesTest.tell(x, "depth=5;depth=50"), 2);
        due("closed by the next text", x.closed(0, 0, 0), 2);
        due("a text of blanks", RulesTest.tell(x, "  "), 0);
        due("rules", x.count(4), 3);
        due("closed by none", x.closed(0, 0, 0), 0);
    }

    private static void tenRules() {
        PoolCoast x = quiet();
        for (int i = 0; i < 9; i++) {
            RulesTest.tell(x, "day>9");
        }
        due("the tenth with a fault", RulesTest.tell(x, "day>"), -2 - (1 + 8 * 4));
        due("the tenth", RulesTest.tell(x, "day>9;day<9"), 2);
        due("closed by the tenth", x.closed(0, 0, 0), 2);
        due("the eleventh", RulesTest.tell(x, "day<9"), -1);
        due("the eleventh of blanks", RulesTest.tell(x, " "), -1);
        due("the tape stays", x.count(7), 1);
        due("rules", x.count(4), 10);
        due("closed by the tenth still", x.closed(0, 0, 0), 2);
    }

    private static void rulesAsKnown() {
        PoolCoast x = quiet();
        x.pass(11);
        RulesTest.tell(x, "day=0");
        x.pass(1);
        RulesTest.tell(x, "day=9;day=0");
        int[] want = {0, 1, 2, 2};
        for (int known = 0; known < 4; known++) {
            due("as known in " + known, x.closed(0, 0, known), want[known]);
            due("an hour to come as known in " + known, x.closed(0, 20, known), want[known]);
        }
        due("as known at last", x.closed(0, 0, 2399), 2);
    }

    private static void testsTaken() {
        PoolCoast x = quiet();
        x.pool(10, 0, 100, 100, 0, 0, 50);
        RulesTest.tell(x, "test=9999;test=0;test=5;test=6");
        x.pass(60);
        due("without tests", x.closed(0, 10, 10), 1);
        x.test(0, 0, 0);
        due("a result of 0 in hour 0", x.closed(0, 0, 10), 2);
        x.test(0, 10, 5);
        due("in now's hour", x.closed(0, 10, 10), 3);
        due("in the hour ahead", x.closed(0, 9, 10), 2);
        due("in an hour to come", x.closed(0, 250, 10), 3);
        due("of another pool", x.closed(1, 10, 10), 1);
        x.test(0, 9, 6);
        due("one taken ahead, told behind", x.closed(0, 10, 10), 3);
        due("in its hour", x.closed(0, 9, 10), 4);
        x.test(0, 10, 9999);
        due("a result of 9999", x.closed(0, 10, 10), 1);
        RulesTest.tell(x, "test<9999;test>9998");
        due("with the greatest NUMBERS", x.closed(0, 10, 10), 2);
        due("a lesser result", x.closed(0, 9, 10), 1);
        RulesTest.tell(x, "test>9999;test>=9999");
        due("at the greatest NUMBER", x.closed(0, 10, 10), 2);
        due("below the greatest NUMBER", x.closed(0, 9, 10), 0);
    }

    /** A pool that was never tested, by rules that name tests alone, one text on each coast. */
    private static void untested() {
        String[] texts = {"test<9999", "test<=9998", "test=9999", "test>=9999", "test>9998", "test>9999",
            "not test=9999"};
        int[] want = {0, 0, 1, 1, 1, 0, 0};
        for (int i = 0; i < texts.length; i++) {
            PoolCoast x = quiet();
            RulesTest.tell(x, texts[i]);
            due("untested, " + texts[i], x.closed(0, 0, 0), want[i]);
        }
    }

    private static void testsAsKnown() {
        PoolCoast x = quiet();
        RulesTest.tell(x, "test=9999;test=1;test=2;test=3");
        x.test(0, 0, 1);
        x.pass(6);
        x.test(0, 0, 2);
        x.test(0, 1, 3);
        due("as known in 0", x.closed(0, 0, 0), 2);
        due("as known in 1", x.closed(0, 0, 1), 3);
        due("hour 1 as known in 0", x.closed(0, 1, 0), 2);
        due("hour 1 as known in 1", x.closed(0, 1, 1), 4);
        due("hour 1 as known in 2399", x.closed(0, 1, 2399), 4);
    }

    private static void fullOfTests() {
        PoolCoast x = quiet();
        x.pool(10, 0, 100, 100, 0, 0, 50);
        RulesTest.tell(x, "test=499;test=77");
        for (int i = 1; i < 500; i++) {
            x.test(i % 2, 0, i);
        }
        due("the 500th with too much", x.test(0, 0, 10000), -1);
        due("the 500th", x.test(0, 0, 77), 500);
        due("the 501st", x.test(1, 0, 77), -1);
        due("tests", x.count(5), 500);
        due("the 500th counts", x.closed(0, 0, 0), 2);
        due("the 499th of the other pool", x.closed(1, 0, 0), 1);
    }

    /** What ../shared/tests feeds to the tape, read as rules too. */
    private static void textsOfTheSharedTest() {
        fault("depth<1;", 8, CANNOT_STAND);
        fault("depth 5", 6, CANNOT_STAND);
        clauses("day = 9", 1);
        PoolCoast x = quiet();
        due("clauses", RulesTest.tell(x, "depth < 30 ; wave > 50 or hour < 6 ;test >= 100 and not age < 2"), 3);
        for (int hour = 0; hour < 24; hour++) {
            // The water is a new pool's: its age at an hour's end is the hour and one.
            due("age in hour " + hour, x.hour(0, hour, 1), hour + 1);
            due("closed in hour " + hour, x.closed(0, hour, 0), hour < 6 ? 2 : 3);
        }
        x.test(0, 0, 99);
        due("a test below 100", x.closed(0, 6, 0), 0);
        due("open hours", x.open(0, 0, 0), 18);
        x.wave(7, 51);
        due("a wave", x.closed(0, 7, 0), 2);
        x.pump(0, -1000);
        due("little water", x.closed(0, 7, 0), 1);
    }

    private static void clausesInOrder() {
        PoolCoast x = quiet();
        for (int first = 1; first <= 9; first++) {
            StringBuilder text = new StringBuilder();
            for (int n = 1; n <= 8; n++) {
                text.append(n == 1 ? "" : ";").append(n < first ? "day=99" : "day<99");
            }
            RulesTest.tell(x, text.toString());
            due("the first that is true", x.closed(0, 0, 0), first == 9 ? 0 : first);
        }
    }

    private static void closedWhere() {
        PoolCoast x = quiet();
        x.pump(0, 10);
        x.pass(9);
        x.pump(0, 0);
        RulesTest.tell(x, "depth=56;depth=59;depth=0");
        due("as kept", x.closed(0, 0, 1), 1);
        due("as foretold in now's hour", x.closed(0, 1, 1), 2);
        due("as foretold at last", x.closed(0, 241, 1), 2);
        due("not foretold", x.closed(0, 242, 1), -1);
        due("hour 2400", x.closed(0, 2400, 1), -1);
        x.pump(0, -1000);
        due("foretold anew", x.closed(0, 1, 1), 3);
        due("kept still", x.closed(0, 0, 1), 1);
        due("open as kept and foretold", x.open(0, 0, 1), 0);
        x.pump(0, 0);
        RulesTest.tell(x, "depth=56 or hour>20;day=9 and age>0");
        due("21 hours less the first", x.open(0, 0, 1), 20);
        due("open all day but at night", x.open(0, 1, 1), 21);
        due("closed all day", x.open(0, 9, 1), 0);
        due("a day not foretold to its end", x.open(0, 10, 1), -1);
        Coasts.passTo(x, 14400);
        due("the last hour", x.closed(0, 2399, 2399), 1);
        due("the last day", x.open(0, 99, 2399), 21);
        due("no hour 2400", x.closed(0, 2400, 2399), -1);
        due("not as known in hour 2400", x.closed(0, 2399, 2400), -1);
    }

    /** A day is told of when its last hour is foretold. */
    private static void openAtTheFarEnd() {
        for (int hour = 21; hour <= 24; hour++) {
            PoolCoast x = Coasts.passTo(quiet(), 6 * hour + 5);
            due("day 9 in hour " + hour, x.open(0, 9, 0), 24);
            due("day 10 in hour " + hour, x.open(0, 10, 0), hour >= 23 ? 24 : -1);
            due("day 11 in hour " + hour, x.open(0, 11, 0), -1);
        }
    }
}
