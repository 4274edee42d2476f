/** The edges of the document's part 4 and of promises 19 to 22 and 27, sentence by sentence: rules, days, searches. */
public final class DayEdgesTest {
    private static final int FACTOR = 1664525, STEP = 1013904223, ALL = 16777216;
    private static final Due D = new Due();

    public static void main(String[] args) {
        rulesOfTables();
        rulesOfOneIn();
        rulesOfSeed();
        daysFromOneToSixty();
        daysUpToFourHundred();
        hallOfLetVisits();
        whoComes();
        eachOnce();
        numbersByVisitsThenVisitors();
        seedMoreByTheDay();
        seedsThatWrap();
        belowTheBound();
        cut();
        oneInOne();
        childrenHaveTheirNumber();
        fourteenCome();
        nobodyComes();
        counts();
        D.end();
    }

    /** The w that becomes this one by so many steps. */
    private static int before(int w, int steps) {
        int inverse = 1;
        for (int i = 0; i < 5; i++) {
            inverse *= 2 - FACTOR * inverse;
        }
        int first = w;
        for (int i = 0; i < steps; i++) {
            first = (first - STEP) * inverse;
        }
        return first;
    }

    /** "TABLES (which 0: 1 .. 6)": what it was. */
    private static void rulesOfTables() {
        VisitHall x = new VisitHall();
        int was = 3;
        for (int v : new int[] {0, 1, 6, 7, 5, -1, 2, Integer.MIN_VALUE, Integer.MAX_VALUE, 6, 1}) {
            boolean may = v >= 1 && v <= 6;
            D.due("19: tables " + v, x.rule(0, v), may ? was : Due.BAD);
            was = may ? v : was;
            D.due("21: free tables behind " + v, x.hall(0, 0, 1), was);
        }
    }

    /** "ONE_IN (1: 1 .. 100)", "ONE_IN 1 .. 100, 4 at first". */
    private static void rulesOfOneIn() {
        VisitHall x = new VisitHall();
        int was = 4;
        for (int v : new int[] {0, 1, 100, 101, 99, -1, 2, Integer.MIN_VALUE, Integer.MAX_VALUE, 100, 1}) {
            boolean may = v >= 1 && v <= 100;
            D.due("19: one in " + v, x.rule(1, v), may ? was : Due.BAD);
            was = may ? v : was;
        }
    }

    /** "SEED (2: any)", "SEED 0". */
    private static void rulesOfSeed() {
        VisitHall x = new VisitHall();
        int was = 0;
        for (int v : new int[] {Due.BAD, -1, 0, 1, Integer.MIN_VALUE, Integer.MAX_VALUE, 7}) {
            D.due("19: seed " + v, x.rule(2, v), was);
            was = v;
        }
        D.due("19: which 3", x.rule(3, 5), Due.BAD);
        D.due("19: which -1", x.rule(-1, 5), Due.BAD);
        D.due("19: the seed stays", x.rule(2, 0), 7);
        D.due("19: so do the tables", x.rule(0, 1), 3);
        D.due("19: and one in", x.rule(1, 1), 4);
    }

    /** "n (1 .. 60) DAYS go: TODAY". */
    private static void daysFromOneToSixty() {
        for (int n = -1; n <= 62; n++) {
            VisitHall x = new VisitHall();
            boolean may = n >= 1 && n <= 60;
            D.due("20: days(" + n + ")", x.days(n), may ? n : Due.BAD);
            D.due("27: today behind " + n, x.count(6), may ? n : 0);
        }
    }

    /** "BAD: also if it would be above 400": from each day near it, and with an n that would wrap. */
    private static void daysUpToFourHundred() {
        for (int today = 340; today <= 400; today++) {
            VisitHall x = new VisitHall();
            for (int left = today; left > 0; left -= Math.min(left, 60)) {
                x.days(Math.min(left, 60));
            }
            D.due("27: today", x.count(6), today);
            int room = 400 - today;
            D.due("20: one too many from " + today, x.days(room + 1), Due.BAD);
            D.due("20: very many from " + today, x.days(Integer.MAX_VALUE), Due.BAD);
            D.due("20: sixty from " + today, x.days(60), room == 60 ? 400 : Due.BAD);
            if (room > 0 && room < 60) {
                D.due("20: up to 400 from " + today, x.days(room), 400);
            }
            D.due("27: today is the last day", x.count(6), 400);
            D.due("20: no more", x.days(1), Due.BAD);
            D.due("20: none", x.days(0), Due.BAD);
        }
    }

    /** "VISITS that are LET at a HALF of a DAY": each half of each, days that are past too, and no others. */
    private static void hallOfLetVisits() {
        VisitHall x = Due.open("1 in 1 long 4", 2);
        x.ask(0, 1, 5, 34, 0);
        x.ask(1, 2, 5, 61, 0);
        x.ask(0, 1, 5, 81, 1);
        x.ask(1, 2, 6, 1, 0);
        x.giveBack(3);
        for (int turn = 0; turn < 2; turn++) {
            for (int half = 0; half < 12; half++) {
                int due = half == 6 ? 2 : half >= 3 && half <= 5 ? 1 : 0;
                D.due("21: half " + half, x.hall(5, half, 0), due);
                D.due("21: half " + half + " of the day before", x.hall(4, half, 0), 0);
                D.due("21: half " + half + " of the day behind", x.hall(6, half, 0), 0);
            }
            x.days(9);
        }
    }

    /** "of the VISITORS who come on a DAY (in VISITS that are LET ..)". */
    private static void whoComes() {
        VisitHall x = Due.open("1 in 1", 4);
        x.rule(1, 1);
        x.ask(0, 1, 5, 1, 0);
        x.ask(1, 2, 5, 1, 0);
        x.ask(2, 4, 4, 1, 0);
        x.ask(2, 4, 6, 1, 0);
        x.ask(0, 1, 6, 1, 0);
        x.ask(3, 8, 5, 1, 0);
        x.ask(3, 8, 5, 11, 1);
        D.due("22: day 5", x.comes(5, 0), 11);
        D.due("22: day 5, searched", x.comes(5, 1), 11);
        D.due("22: day 4", x.comes(4, 0), 4);
        D.due("22: day 6", x.comes(6, 0), 5);
        D.due("22: day 7", x.comes(7, 0), 0);
        x.giveBack(1);
        D.due("22: less one", x.comes(5, 0), 9);
        D.due("22: less one, searched", x.comes(5, 1), 9);
        x.days(60);
        D.due("22: a day that is past", x.comes(5, 0), 9);
        D.due("22: a day that is past, searched", x.comes(5, 1), 9);
    }

    /** Searched of those who come in this order, with w before the first; children are never searched. */
    private static int drawn(int w, int oneIn, int[] order, int children) {
        int bits = 0;
        int now = w;
        for (int visitor : order) {
            now = now * FACTOR + STEP;
            if ((now >>> 8) < ALL / oneIn) {
                bits |= 1 << visitor;
            }
        }
        return bits & ~children;
    }

    /** "each once, where they come first": for one who comes thrice there is one number. */
    private static void eachOnce() {
        VisitHall x = Due.open("9 in 1", 4);
        x.list(0, 2, 1);
        x.list(1, 0, 1);
        x.list(1, 3, 1);
        x.ask(0, 5, 5, 11, 0);
        x.ask(1, 10, 5, 11, 0);
        x.ask(1, 3, 5, 1, 0);
        x.ask(2, 4, 5, 1, 0);
        x.rule(1, 2);
        int[] order = {0, 2, 1, 3};
        for (int seed = 0; seed < 200; seed++) {
            x.rule(2, seed * 7919);
            D.due("22: seed " + seed, x.comes(5, 1), drawn(seed * 7919 + 5, 2, order, 0));
        }
    }

    /** "by numbers of VISITS, then of VISITORS": not by halves, and a visit let late keeps its place. */
    private static void numbersByVisitsThenVisitors() {
        VisitHall x = Due.open("9 in 1", 5);
        x.list(1, 0, 1);
        x.rule(0, 1);
        x.ask(2, 4, 5, 1, 0);
        x.ask(4, 16, 5, 1, 1);
        x.ask(1, 3, 5, 51, 0);
        x.ask(3, 8, 5, 31, 0);
        x.giveBack(0);
        D.due("18: visit 1 is let late", x.visit(1, 5), 0);
        x.rule(1, 2);
        int[] order = {4, 0, 1, 3};
        for (int seed = 0; seed < 200; seed++) {
            x.rule(2, seed * -104729);
            D.due("22: seed " + seed, x.comes(5, 1), drawn(seed * -104729 + 5, 2, order, 0));
        }
    }

    /** "being the SEED more by the DAY at first": the first number of a day, for the first and the last day. */
    private static void seedMoreByTheDay() {
        for (int day : new int[] {0, 1, 59, 399, 400}) {
            VisitHall x = Due.open("9 in 1", 1);
            x.ask(0, 1, day, 1, 0);
            x.rule(1, 100);
            int below = before((ALL / 100 << 8) - 1, 1);
            int at = before(ALL / 100 << 8, 1);
            x.rule(2, below - day);
            D.due("22: below the bound, day " + day, x.comes(day, 1), 1);
            x.rule(2, at - day);
            D.due("22: at the bound, day " + day, x.comes(day, 1), 0);
        }
    }

    /** "(ints that wrap)": the sum of SEED and DAY, and each step. */
    private static void seedsThatWrap() {
        VisitHall x = Due.open("9 in 1", 3);
        for (int p = 0; p < 3; p++) {
            x.ask(p, 1 << p, 9, 1, 0);
        }
        int[] order = {0, 1, 2};
        for (int oneIn : new int[] {1, 2, 3, 4, 50, 100}) {
            x.rule(1, oneIn);
            for (int less = -12; less <= 12; less++) {
                x.rule(2, Integer.MAX_VALUE - less);
                D.due("22: seed most less " + less, x.comes(9, 1), drawn(Integer.MAX_VALUE - less + 9, oneIn, order, 0));
            }
            x.rule(2, Integer.MIN_VALUE);
            D.due("22: the least seed", x.comes(9, 1), drawn(Integer.MIN_VALUE + 9, oneIn, order, 0));
            x.rule(2, -9);
            D.due("22: a seed that makes 0", x.comes(9, 1), drawn(0, oneIn, order, 0));
        }
    }

    /** "searched is who has w >>> 8 below 16777216 / ONE_IN": for every ONE_IN, and each who comes. */
    private static void belowTheBound() {
        for (int oneIn = 1; oneIn <= 100; oneIn++) {
            VisitHall x = Due.open("9 in 1", 3);
            for (int p = 0; p < 3; p++) {
                x.ask(p, 1 << p, 7, 1, 0);
            }
            x.rule(1, oneIn);
            int bound = ALL / oneIn;
            for (int p = 0; p < 3; p++) {
                x.rule(2, before(bound << 8, p + 1) - 7);
                // one in 1: the bound is no number's, and bound << 8 is 0
                D.due("22: " + p + " at the bound of " + oneIn, x.comes(7, 1) >> p & 1, oneIn == 1 ? 1 : 0);
                x.rule(2, before((bound << 8) - 1, p + 1) - 7);
                D.due("22: " + p + " below the bound of " + oneIn, x.comes(7, 1) >> p & 1, 1);
                x.rule(2, before((bound << 8) + 255, p + 1) - 7);
                D.due("22: " + p + " at the bound of " + oneIn, x.comes(7, 1) >> p & 1, oneIn == 1 ? 1 : 0);
            }
        }
    }

    /** "(cut ..)", "/ cuts": 16777216 / 3 is 5592405, not 5592405 and a third. */
    private static void cut() {
        VisitHall x = Due.open("9 in 1", 1);
        x.ask(0, 1, 7, 1, 0);
        x.rule(1, 3);
        x.rule(2, before(5592405 << 8, 1) - 7);
        D.due("22: 5592405", x.comes(7, 1), 0);
        x.rule(2, before(5592404 << 8, 1) - 7);
        D.due("22: 5592404", x.comes(7, 1), 1);
    }

    /** ONE_IN 1: all, the greatest number too, as w >>> 8 is never below 0. */
    private static void oneInOne() {
        VisitHall x = Due.open("9 in 1", 1);
        x.ask(0, 1, 7, 1, 0);
        int[] numbers = {-1, Integer.MIN_VALUE, Integer.MAX_VALUE, 0, 255, 256};
        for (int oneIn : new int[] {1, 2}) {
            x.rule(1, oneIn);
            for (int w : numbers) {
                x.rule(2, before(w, 1) - 7);
                D.due("22: w " + w + ", one in " + oneIn, x.comes(7, 1), oneIn == 1 || w >= 0 ? 1 : 0);
            }
        }
    }

    /** "CHILDREN are never searched, but have their number". */
    private static void childrenHaveTheirNumber() {
        VisitHall x = new VisitHall();
        Due.right(x, 0, "9 in 1");
        x.prisoner(0, 0);
        int[] kinds = {3, 1, 3, 2, 0};
        for (int v = 0; v < kinds.length; v++) {
            x.visitor(kinds[v], 0, 0);
            x.list(0, v, 1);
        }
        x.ask(0, 7, 5, 1, 0);
        x.ask(0, 24, 5, 11, 0);
        int[] order = {0, 1, 2, 3, 4};
        for (int oneIn = 1; oneIn <= 100; oneIn++) {
            x.rule(1, oneIn);
            x.rule(2, oneIn * 65537);
            D.due("22: one in " + oneIn, x.comes(5, 1), drawn(oneIn * 65537 + 5, oneIn, order, 5));
        }
        D.due("22: children come", x.comes(5, 0), 31);
        x.rule(1, 1);
        D.due("22: all but the children", x.comes(5, 1), 26);
    }

    /** As many as there can be: fourteen visitors, in visits of three. */
    private static void fourteenCome() {
        VisitHall x = new VisitHall();
        Due.right(x, 0, "9 in 1");
        for (int p = 0; p < 5; p++) {
            x.prisoner(0, 0);
        }
        for (int v = 0; v < 14; v++) {
            x.visitor(0, 0, 0);
            x.list(v / 3, v, 1);
        }
        x.rule(0, 6);
        int[] order = {12, 13, 9, 10, 11, 6, 7, 8, 3, 4, 5, 0, 1, 2};
        x.ask(4, 3 << 12, 400, 1, 0);
        for (int p = 3; p >= 0; p--) {
            x.ask(p, 7 << 3 * p, 400, 1, 0);
        }
        D.due("22: all come", x.comes(400, 0), 16383);
        for (int oneIn = 1; oneIn <= 100; oneIn += 3) {
            x.rule(1, oneIn);
            x.rule(2, -oneIn * 7654321);
            D.due("22: one in " + oneIn, x.comes(400, 1), drawn(-oneIn * 7654321 + 400, oneIn, order, 0));
        }
    }

    private static void nobodyComes() {
        VisitHall x = new VisitHall();
        for (int day : new int[] {0, 1, 400}) {
            D.due("22: nobody, day " + day, x.comes(day, 0), 0);
            D.due("22: nobody is searched, day " + day, x.comes(day, 1), 0);
        }
        D.due("22: day 401", x.comes(401, 0), Due.BAD);
        D.due("22: day -1", x.comes(-1, 1), Due.BAD);
        D.due("22: what 2", x.comes(0, 2), Due.BAD);
        D.due("22: what -1", x.comes(0, -1), Due.BAD);
    }

    private static void counted(String call, VisitHall x, int... due) {
        for (int what = 0; what < 9; what++) {
            D.due("27: count(" + what + ") " + call, x.count(what), due[what]);
        }
        D.due("27: count(9) " + call, x.count(9), Due.BAD);
        D.due("27: count(-1) " + call, x.count(-1), Due.BAD);
    }

    /** Promise 27: each count by itself, from nothing on, and down again where it can go down. */
    private static void counts() {
        VisitHall x = new VisitHall();
        counted("of a new object", x, 0, 0, 0, 0, 0, 0, 0, 0, 0);
        x.prisoner(0, 0);
        x.prisoner(0, 1);
        counted("prisoners", x, 2, 0, 0, 0, 0, 0, 0, 0, 0);
        x.visitor(0, 0, 0);
        counted("visitors", x, 2, 1, 0, 0, 0, 0, 0, 0, 0);
        Due.tell(x, "1 in 9");
        counted("the tape", x, 2, 1, 0, 0, 0, 0, 0, 6, 0);
        x.right(0);
        x.list(0, 0, 1);
        x.ask(0, 1, 5, 1, 0);
        counted("one let", x, 2, 1, 1, 1, 0, 0, 0, 0, 0);
        x.ask(0, 1, 5, 11, 1);
        x.ask(0, 1, 6, 11, 1);
        counted("two wait", x, 2, 1, 3, 1, 2, 0, 0, 0, 0);
        x.giveBack(2);
        counted("one given back", x, 2, 1, 3, 1, 1, 0, 0, 0, 0);
        x.order(1, 0, 400);
        x.rivals(7, 8, 1);
        counted("an order and rivals", x, 2, 1, 3, 1, 1, 1, 0, 0, 1);
        x.days(6);
        counted("days that are past", x, 2, 1, 3, 1, 1, 1, 6, 0, 1);
        x.lift(1, 0);
        x.rivals(8, 7, 0);
        x.move(0);
        counted("down again", x, 1, 1, 3, 1, 1, 0, 6, 0, 0);
    }
}
