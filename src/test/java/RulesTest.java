/** Promises 17 to 22: feed, end, rules, test, closed, open. */
public final class RulesTest {
    private static final Check CHECK = new Check();

    public static void main(String[] args) {
        tape();
        clausesCounted();
        faultsOfWords();
        faultsOfNumbersAndEnds();
        faultsOfDepth();
        faultsOfMany();
        rulesHaveALimit();
        tests();
        signsAndJoins();
        facts();
        testsKnown();
        rulesKnown();
        wrongHours();
        openDays();
        CHECK.finish();
    }

    private static void due(String what, long got, long want) {
        CHECK.due(what, got, want);
    }

    /** Puts a text on the tape and makes it rules. */
    static int tell(PoolCoast x, String text) {
        put(x, text);
        return x.rules();
    }

    /** Puts a text on the tape in place of what stands there. */
    static void put(PoolCoast x, String text) {
        x.end(0);
        for (int i = 0; i < text.length(); i += 20) {
            int[] five = new int[5];
            for (int k = 0; k < 20; k++) {
                five[k / 4] = five[k / 4] << 8 | (i + k < text.length() ? text.charAt(i + k) : 0);
            }
            x.feed(five[0], five[1], five[2], five[3], five[4]);
        }
        x.end(text.length());
    }

    private static void clauses(String text, int want) {
        due("clauses of " + text, tell(new PoolCoast(), text), want);
    }

    private static void fault(String text, int place, int kind) {
        PoolCoast x = new PoolCoast();
        due("fault of " + text, tell(x, text), -2 - (1 + 8 * place + kind));
        due("tape behind " + text, x.count(7), 0);
        due("no rules of " + text, x.count(4), 0);
    }

    private static void tape() {
        PoolCoast x = new PoolCoast();
        due("end -1", x.end(-1), -1);
        due("end 1", x.end(1), -1);
        due("end 0", x.end(0), 0);
        for (int i = 1; i <= 15; i++) {
            due("feed", x.feed(i, 0, 0, 0, 0), 20 * i);
        }
        due("16th", x.feed(0, 0, 0, 0, 0), -1);
        due("end 301", x.end(301), -1);
        due("end 281", x.end(281), 281);
        due("would have 301", x.feed(0, 0, 0, 0, 0), -1);
        due("end 280", x.end(280), 280);
        due("has 300", x.feed(0, 0, 0, 0, 0), 300);
        due("count", x.count(7), 300);
        PoolCoast y = new PoolCoast();
        // "sea<", "1   ", byte 128 and more blanks
        y.feed(0x7365613c, 0x31202020, 0x80202020, 0x20202020, 0x20202020);
        due("highest byte first", y.rules(), -2 - (1 + 8 * 8));
        y.feed(0x7365613c, 0x31202020, 0x20202020, 0x20202020, 0x20202020);
        due("good", y.rules(), 1);
    }

    private static void clausesCounted() {
        clauses("", 0);
        clauses("    ", 0);
        clauses("depth<1", 1);
        clauses("  depth  <=  9999  ", 1);
        clauses("sea=0;wave>=1", 2);
        clauses("not(age>3or dirt>5)and not not test=0;hour<7 or hour>20;day=9", 3);
        clauses("((((((((((day<1))))))))))", 1);
        clauses("not not not not not not not not not not day<1", 1);
        clauses("day<1;day<1;day<1;day<1;day<1;day<1;day<1;day<1", 8);
        clauses("day<1or day<1or day<1or day<1or day<1or day<1or day<1or day<1or day<1or day<1or day<1or day<1or "
            + "day<1or day<1or day<1or day<1or day<1or day<1or day<1or day<1or day<1or day<1or day<1or day<1", 1);
        clauses("day<0001", 1);
    }

    private static void faultsOfWords() {
        fault("dept < 1", 0, 0);
        fault("depths<1", 0, 0);
        fault("Depth<1", 0, 0);
        fault("depthX<1", 5, 0);
        fault("notday<1", 0, 0);
        fault("day<1 andday<1", 6, 0);
        fault("day<1 day<1", 6, 0);
        fault("day<1 not day<1", 6, 0);
        fault("and day<1", 0, 0);
        fault("day<1 and or day<1", 10, 0);
        fault("day<1 or;", 8, 0);
        fault("1<day", 0, 0);
        fault("12345<day", 0, 0);
        fault(";day<1", 0, 0);
        fault("day<1;;day<1", 6, 0);
        fault("day<1\t", 5, 0);
        fault("day<day", 4, 0);
        fault("day 5", 4, 0);
    }

    private static void faultsOfNumbersAndEnds() {
        fault("depth", 5, 0);
        fault("depth  ", 7, 0);
        fault("depth <", 7, 0);
        fault("depth < = 1", 8, 0);
        fault("depth <> 1", 7, 0);
        fault("depth =< 1", 7, 0);
        fault("depth == 1", 7, 0);
        fault("depth < 12345", 8, 1);
        fault("depth < 00001 and", 8, 1);
        fault("depth < -1", 8, 0);
        fault("depth < 1 or", 12, 0);
        fault("depth < 1;", 10, 0);
        fault("depth < 1 ;  ", 13, 0);
        fault("(depth<1", 8, 0);
        fault("(depth<1 ", 9, 0);
        fault("depth<1)", 7, 0);
        fault("(depth<1;", 8, 0);
        fault("()", 1, 0);
        fault("not", 3, 0);
        fault("(day<1)(", 7, 0);
    }

    private static void faultsOfDepth() {
        fault("(((((((((((day<1", 10, 2);
        fault("((((((((((not day<1", 10, 2);
        fault("not(not(not(not(not(not", 20, 2);
        fault("((((((((((day<1))))))))))and((((((((((not day<1", 38, 2);
        fault("(((((((((( )", 11, 0);
    }

    private static void faultsOfMany() {
        String eight = "day<1;day<1;day<1;day<1;day<1;day<1;day<1;day<1;";
        fault(eight, 48, 0);
        fault(eight + "day<1", 48, 3);
        fault(eight + "  day", 50, 3);
        fault(eight + "  (", 50, 3);
        fault(eight + "not", 48, 3);
        fault(eight + ")", 48, 0);
        fault(eight + "or", 48, 0);
        String six = "day<1or day<1or day<1or day<1or day<1or day<1or ";
        String four = six + six + six + six;
        fault(four, 192, 0);
        fault(four + "day<1", 192, 4);
        fault(four + "(day<1", 193, 4);
        fault(four + "foo", 192, 0);
        String mixed = six + six + six + "day<1;day<1;day<1;day<1;day<1;day<1;";
        fault(mixed + "day<1", mixed.length(), 4);
        String three = six + six + "day<1or day<1or day<1or day<1;day<1;day<1;day<1;day<1;day<1;day<1;day<1;";
        fault(three + "day<1", three.length(), 3);
        String ninthAnd25th = six + six + "day<1or day<1or day<1or day<1or day<1;day<1;day<1;day<1;day<1;day<1;day<1;day<1;";
        fault(ninthAnd25th + "day<1", ninthAnd25th.length(), 3);
    }

    private static void rulesHaveALimit() {
        PoolCoast x = new PoolCoast();
        due("a fault", tell(x, "foo"), -3);
        for (int i = 1; i <= 10; i++) {
            due("rules " + i, tell(x, "day<1"), 1);
            due("count", x.count(4), i);
        }
        due("eleventh", tell(x, "day<1"), -1);
        due("nothing happens", x.count(7), 5);
        due("eleventh with a fault", tell(x, "foo"), -1);
    }

    private static void tests() {
        PoolCoast x = new PoolCoast();
        x.pool(10, 0, 100, 100, 0, 0, 50);
        x.pass(13);
        due("no pool", x.test(1, 0, 5), -1);
        due("pool -1", x.test(-1, 0, 5), -1);
        due("hour -1", x.test(0, -1, 5), -1);
        due("hour to come", x.test(0, 3, 5), -1);
        due("result -1", x.test(0, 0, -1), -1);
        due("result 10000", x.test(0, 0, 10000), -1);
        due("now's hour", x.test(0, 2, 9999), 1);
        due("hour 0", x.test(0, 0, 0), 2);
        due("count", x.count(5), 2);
        for (int i = 3; i <= 500; i++) {
            x.test(0, 1, i);
        }
        due("500", x.count(5), 500);
        due("501", x.test(0, 0, 0), -1);
    }

    private static void closing(String text, int want) {
        PoolCoast x = new PoolCoast();
        x.turn(0, -300);
        x.pool(10, 0, 100, 100, 0, 0, 50);
        due("clauses", tell(x, text) > 0 ? 1 : 0, 1);
        due("closed by " + text, x.closed(0, 30, 30), want);
    }

    /** Hour 30 is hour 6 of day 1; the depth is 50, the sea -300, the wave 100. */
    private static void signsAndJoins() {
        closing("depth<50", 0);
        closing("depth<51", 1);
        closing("depth<=49", 0);
        closing("depth<=50", 1);
        closing("depth=50", 1);
        closing("depth=49", 0);
        closing("depth>=51", 0);
        closing("depth>=50", 1);
        closing("depth>50", 0);
        closing("depth>49", 1);
        closing("not depth=50", 0);
        closing("not not depth=50", 1);
        closing("day=2;day=1", 2);
        closing("day=1;day=1", 1);
        closing("day=2;not day=2;day=1", 2);
        closing("day=1 or day=2 and day=3", 1);
        closing("(day=1 or day=2) and day=3", 0);
        closing("day=3 and day=2 or day=1", 1);
        closing("not day=2 and day=3", 0);
        closing("not(day=2 and day=3)", 1);
        closing("day=2 or day=3 or day=1", 1);
        closing("day=1 and hour=6 and wave=100", 1);
        closing("day=1 and hour=6 and wave=101", 0);
        closing("not(day=2 or(day=1 and(hour=7 or(hour=6 and not(wave=1 or depth=50 and age=31)))))", 1);
        closing("not(day=2 or(day=1 and(hour=7 or(hour=6 and not(wave=1 or depth=50 and age=9)))))", 0);
    }

    private static int asked(PoolCoast x, String text, int hour, int known) {
        tell(x, text);
        return x.closed(0, hour, known);
    }

    private static void facts() {
        PoolCoast x = new PoolCoast();
        x.turn(0, -300);
        x.turn(84, 300);
        x.pool(10, -50, 100, 100, 0, 0, 50);
        x.dirt(0, 7, 0);
        x.pass(4);
        due("depth is from the floor", asked(x, "depth=50", 0, 0), 1);
        // tick 77 of 84: j 5, r 42, P 11 * 84 + 42 of 1008, 600 * 966 / 1008 is 575
        due("sea in the last tick", asked(x, "sea=275", 12, 0), 1);
        due("age under the sea", asked(x, "age=0", 30, 0), 1);
        due("no dirt", asked(x, "dirt=0", 22, 0), 1);
        due("dirt", asked(x, "dirt=7", 23, 0), 1);
        due("hour of the day", asked(x, "hour=23", 47, 0), 1);
        due("day", asked(x, "day=1", 47, 0), 1);
        due("not tested", asked(x, "test=9999", 47, 0), 1);
        PoolCoast y = new PoolCoast();
        y.turn(0, -300);
        y.pool(10, -50, 100, 100, 0, 0, 50);
        due("sea below all", asked(y, "sea<0", 0, 0), 1);
        due("age in hours", asked(y, "age=31", 30, 0), 1);
    }

    private static void testsKnown() {
        PoolCoast x = new PoolCoast();
        x.pool(10, 0, 100, 100, 0, 0, 50);
        x.pool(10, 0, 100, 100, 0, 0, 50);
        tell(x, "test=9999;test=1;test=2;test=3;test=4");
        x.pass(60);
        x.test(0, 8, 2);
        x.test(0, 4, 1);
        x.test(1, 9, 4);
        due("ahead of all", x.closed(0, 3, 10), 1);
        due("in hour 4", x.closed(0, 4, 10), 2);
        due("in hour 7", x.closed(0, 7, 10), 2);
        due("in hour 8", x.closed(0, 8, 10), 3);
        due("to come", x.closed(0, 100, 10), 3);
        due("not known in 9", x.closed(0, 8, 9), 1);
        due("another pool", x.closed(1, 9, 10), 5);
        x.pass(6);
        x.test(0, 8, 3);
        due("of one hour the last", x.closed(0, 8, 11), 4);
        due("as known in 10", x.closed(0, 8, 10), 3);
    }

    private static void rulesKnown() {
        PoolCoast x = new PoolCoast();
        x.pool(10, 0, 100, 100, 0, 0, 50);
        due("without rules", x.closed(0, 0, 0), 0);
        tell(x, "day<9");
        tell(x, "day>9;day<9");
        due("the last ones", x.closed(0, 0, 0), 2);
        x.pass(60);
        tell(x, "wave=30");
        x.wave(5, 30);
        due("not yet known", x.closed(0, 5, 9), 2);
        due("known", x.closed(0, 5, 10), 1);
        due("known later", x.closed(0, 5, 2399), 1);
        tell(x, "wave=100;wave=20");
        x.wave(5, 20);
        x.pass(60);
        x.wave(5, 100);
        due("wave as known in 10", x.closed(0, 5, 10), 2);
        due("wave as known in 20", x.closed(0, 5, 20), 1);
        tell(x, "");
        due("lifted", x.closed(0, 5, 20), 0);
        due("as before", x.closed(0, 5, 19), 2);
    }

    private static void wrongHours() {
        PoolCoast x = new PoolCoast();
        x.pass(150);
        x.pool(10, 0, 100, 100, 0, 0, 50);
        due("pool 1", x.closed(1, 30, 30), -1);
        due("pool -1", x.closed(-1, 30, 30), -1);
        due("ahead of the pool", x.closed(0, 24, 30), -1);
        due("its hour", x.closed(0, 25, 30), 0);
        due("240 behind", x.closed(0, 265, 30), 0);
        due("241 behind", x.closed(0, 266, 30), -1);
        due("known -1", x.closed(0, 30, -1), -1);
        due("known 2400", x.closed(0, 30, 2400), -1);
        due("known 2399", x.closed(0, 30, 2399), 0);
        due("known ahead of the pool", x.closed(0, 30, 0), 0);
        due("day 0", x.open(0, 0, 0), -1);
        due("a day that it was not there all along", x.open(0, 1, 0), -1);
        due("day 2", x.open(0, 2, 0), 24);
        due("day 10", x.open(0, 10, 0), 24);
        due("a day not foretold to its end", x.open(0, 11, 0), -1);
        due("day -1", x.open(0, -1, 0), -1);
        due("day 100", x.open(0, 100, 0), -1);
        due("far day", x.open(0, Integer.MAX_VALUE, 0), -1);
        due("open pool 1", x.open(1, 2, 0), -1);
        due("open known -1", x.open(0, 2, -1), -1);
        due("open known 2400", x.open(0, 2, 2400), -1);
    }

    private static void openDays() {
        PoolCoast x = new PoolCoast();
        x.pool(10, 0, 100, 100, 0, 0, 50);
        tell(x, "hour<7;hour>20 and day=1");
        due("day 0", x.open(0, 0, 0), 17);
        due("day 1", x.open(0, 1, 0), 14);
        x.pass(288);
        x.wave(25, 400);
        x.wave(30, 400);
        x.wave(40, 400);
        tell(x, "hour<7;hour>20 and day=1;wave>200");
        due("as known then", x.open(0, 1, 47), 14);
        due("as known now", x.open(0, 1, 48), 13);
    }
}
