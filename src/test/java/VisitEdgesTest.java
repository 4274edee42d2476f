/**
 * The edges of the document's part 3, sentence by sentence: what a visit is, when two meet, tables, and each reason for
 * a refusal by itself and ahead of the others. Lawyers who take tables, and those who wait, have tests of their own.
 */
public final class VisitEdgesTest {
    private static final Due D = new Due();

    public static void main(String[] args) {
        oneToThreeVisitors();
        visitorsThatAreNot();
        fromTodayOn();
        halves();
        numbered();
        refusedAreNotNumbered();
        aHundredEver();
        whatAVisitTells();
        allLawyers();
        everyTwoThatMeet();
        meetOnOneDay();
        meetWhatIsLet();
        tablesOfTheRule();
        tablesOfTheSheet();
        sheetPlaces();
        tablesAtEachHalf();
        freeTables();
        reason1();
        reason2();
        reason3();
        reason4();
        reason5();
        reason6();
        reason7();
        reason8();
        reason8Kinds();
        firstOfTheReasons();
        firstOfALawyersReasons();
        D.end();
    }

    /** The reason by why(), and the same by ask(); it stays as it was, as the visit is not let. */
    private static void refused(String call, VisitHall x, int prisoner, int set, int day, int halves, int reason) {
        D.due("16: why " + call, x.why(prisoner, set, day, halves), reason);
        D.due("15: ask " + call, x.ask(prisoner, set, day, halves, 0), -10 - reason);
    }

    private static void may(String call, VisitHall x, int prisoner, int set, int day, int halves) {
        D.due("16: why " + call, x.why(prisoner, set, day, halves), 0);
    }

    /** "a set of 1 to 3 VISITORS": every set of eight visitors. */
    private static void oneToThreeVisitors() {
        VisitHall x = Due.open("9 in 1", 8);
        for (int v = 0; v < 8; v++) {
            x.list(0, v, 1);
        }
        for (int set = 0; set < 256; set++) {
            int many = Integer.bitCount(set);
            D.due("16: why of set " + set, x.why(0, set, 0, 1), many >= 1 && many <= 3 ? 0 : Due.BAD);
        }
        VisitHall y = full();
        D.due("15: the last three of fourteen", y.ask(0, 7 << 11, 0, 1, 0), 0);
        D.due("18: their bits", y.visit(0, 1), 7 << 11);
        D.due("15: four of fourteen", y.ask(0, 15 << 10, 1, 1, 0), Due.BAD);
        D.due("15: all fourteen", y.ask(0, (1 << 14) - 1, 1, 1, 0), Due.BAD);
        D.due("15: the first and the last", y.ask(0, 1 << 13 | 1, 1, 1, 0), 1);
    }

    /** Prisoner 0 with all fourteen visitors there can be on the list. */
    private static VisitHall full() {
        VisitHall x = new VisitHall();
        Due.right(x, 0, "9 in 1");
        x.prisoner(0, 0);
        for (int v = 0; v < 14; v++) {
            x.visitor(0, 0, 0);
            x.list(0, v, 1);
        }
        return x;
    }

    /** A bit that is no visitor's is BAD, alone and with others. */
    private static void visitorsThatAreNot() {
        for (int there = 0; there <= 14; there++) {
            VisitHall x = new VisitHall();
            Due.right(x, 0, "9 in 1");
            x.prisoner(0, 0);
            for (int v = 0; v < there; v++) {
                x.visitor(0, 0, 0);
                x.list(0, v, 1);
            }
            for (int bit = 0; bit < 32; bit++) {
                D.due("16: bit " + bit + " of " + there, x.why(0, 1 << bit, 0, 1), bit < there ? 0 : Due.BAD);
                D.due("16: bits 0 and " + bit + " of " + there, x.why(0, 1 | 1 << bit, 0, 1), bit < there ? 0 : Due.BAD);
            }
        }
    }

    /** "a DAY from TODAY on": yesterday, today, and the last day of all. */
    private static void fromTodayOn() {
        VisitHall x = Due.open("9 in 1", 1);
        int[] steps = {1, 2, 60, 60, 60, 60, 60, 60, 36, 1};
        int today = 0;
        int number = 0;
        for (int step : steps) {
            D.due("15: today, " + today, x.ask(0, 1, today, 1, 0), number++);
            D.due("15: yesterday, " + (today - 1), x.ask(0, 1, today - 1, 11, 1), Due.BAD);
            D.due("16: yesterday, " + (today - 1), x.why(0, 1, today - 1, 11), Due.BAD);
            today += step;
            D.due("20: days", x.days(step), today);
        }
        D.due("15: today, 400", x.ask(0, 1, 400, 1, 0), number);
        D.due("16: day 401", x.why(0, 1, 401, 1), Due.BAD);
        D.due("16: day 399", x.why(0, 1, 399, 1), Due.BAD);
    }

    /** "HALVES from a first one on, 1 to 4 of them, none behind 11", "halves is 10 * the first and how many". */
    private static void halves() {
        VisitHall x = Due.open("9 in 1 long 4", 1);
        for (int halves = -130; halves <= 140; halves++) {
            boolean is = false;
            for (int first = 0; first <= 11; first++) {
                for (int many = 1; many <= 4; many++) {
                    is |= first + many - 1 <= 11 && halves == 10 * first + many;
                }
            }
            D.due("16: halves " + halves, x.why(0, 1, 0, halves), is ? 0 : Due.BAD);
        }
        int[] far = {Integer.MIN_VALUE, Integer.MIN_VALUE + 1, Integer.MAX_VALUE, Integer.MAX_VALUE - 5, 1001, 10002};
        for (int halves : far) {
            D.due("15: halves " + halves, x.ask(0, 1, 0, halves, 0), Due.BAD);
        }
        D.due("15: none came of these", x.count(2), 0);
    }

    /** "VISITS are numbered from 0 as they are ASKED for", those that wait among those that are let. */
    private static void numbered() {
        VisitHall x = Due.open("1 in 1", 1);
        D.due("15: let", x.ask(0, 1, 5, 1, 1), 0);
        D.due("15: waits", x.ask(0, 1, 5, 11, 1), 1);
        D.due("15: let, of an earlier day", x.ask(0, 1, 3, 1, 0), 2);
        D.due("15: waits", x.ask(0, 1, 3, 1, 1), 3);
        D.due("18: states", Due.states(x, 4), "0101");
        D.due("17: given back", x.giveBack(1), 0);
        D.due("15: its number is not given again", x.ask(0, 1, 4, 1, 0), 4);
    }

    /** "was REFUSED (those are not numbered)". */
    private static void refusedAreNotNumbered() {
        VisitHall x = Due.open("1 in 1", 1);
        x.ask(0, 1, 5, 1, 0);
        D.due("15: refused", x.ask(0, 1, 5, 11, 0), -16);
        D.due("27: visits ever", x.count(2), 1);
        D.due("18: none of number 1", x.visit(1, 0), Due.BAD);
        D.due("15: the next number", x.ask(0, 1, 6, 1, 0), 1);
    }

    /** "100 at most ever": also if some are given back, wait, or are past. */
    private static void aHundredEver() {
        VisitHall x = Due.open("1 in 1", 1);
        for (int i = 0; i < 100; i++) {
            D.due("15: visit " + i, x.ask(0, 1, i, 1, 0), i);
            D.due("27: visits ever", x.count(2), i + 1);
        }
        D.due("15: one more that would be let", x.ask(0, 1, 200, 1, 0), Due.FULL);
        D.due("15: one more that would be refused", x.ask(0, 1, 99, 11, 0), Due.FULL);
        D.due("15: one more that would wait", x.ask(0, 1, 99, 11, 1), Due.FULL);
        D.due("15: BAD stands ahead", x.ask(1, 1, 200, 1, 0), Due.BAD);
        D.due("15: BAD stands ahead", x.ask(0, 2, 200, 1, 0), Due.BAD);
        D.due("15: BAD stands ahead", x.ask(0, 1, 401, 1, 0), Due.BAD);
        D.due("15: BAD stands ahead", x.ask(0, 1, 200, 5, 0), Due.BAD);
        D.due("15: BAD stands ahead", x.ask(0, 1, 200, 1, 2), Due.BAD);
        D.due("16: why", x.why(0, 1, 200, 1), 0);
        D.due("18: the last", x.visit(99, 2), 99);
        D.due("18: none behind it", x.visit(100, 2), Due.BAD);
        D.due("17: the last", x.giveBack(99), 0);
        D.due("17: none behind it", x.giveBack(100), Due.BAD);
        x.days(60);
        D.due("15: still full", x.ask(0, 1, 200, 1, 0), Due.FULL);
        D.due("27: visits ever", x.count(2), 100);
        D.due("27: let ones, of all days", x.count(3), 99);
    }

    /** Promise 18: each what, for the smallest and the greatest numbers that there can be. */
    private static void whatAVisitTells() {
        VisitHall x = full();
        for (int p = 1; p < 10; p++) {
            x.prisoner(3, 0);
        }
        x.list(9, 13, 1);
        Due.right(x, 3, "1 in 1 long 4");
        x.ask(0, 1, 0, 1, 0);
        x.ask(9, 1 << 13, 400, 84, 0);
        x.ask(9, 1 << 13, 400, 111, 1);
        int[][] due = {{0, 1, 0, 0, 1, 0, 0}, {9, 1 << 13, 400, 8, 4, 0, 0}, {9, 1 << 13, 400, 11, 1, 1, 0}};
        for (int v = 0; v < 3; v++) {
            for (int what = 0; what < 7; what++) {
                D.due("18: visit(" + v + ", " + what + ")", x.visit(v, what), due[v][what]);
            }
            D.due("18: what 7", x.visit(v, 7), Due.BAD);
            D.due("18: what -1", x.visit(v, -1), Due.BAD);
        }
        D.due("18: visit 3", x.visit(3, 0), Due.BAD);
        D.due("18: visit -1", x.visit(-1, 0), Due.BAD);
        x.giveBack(1);
        D.due("18: given back", x.visit(1, 5), 2);
        D.due("18: its day stays told", x.visit(1, 2), 400);
    }

    /** "It is a LAWYER's if all its VISITORS are LAWYERS": every set of three of each kind. */
    private static void allLawyers() {
        VisitHall x = new VisitHall();
        Due.right(x, 0, "9 in 1");
        x.prisoner(0, 0);
        int[] kinds = {0, 1, 3, 2, 2, 2};
        for (int v = 0; v < kinds.length; v++) {
            x.visitor(kinds[v], 0, 0);
            x.list(0, v, 1);
        }
        int number = 0;
        for (int set = 1; set < 64; set++) {
            boolean needsKin = (set & 4) != 0 && (set & 2) == 0;
            if (Integer.bitCount(set) > 3 || needsKin) {
                continue;
            }
            D.due("15: set " + set, x.ask(0, set, 10 + number, 1, 0), number);
            D.due("18: set " + set, x.visit(number, 6), (set & 7) == 0 ? 1 : 0);
            number++;
        }
    }

    /** "Two MEET if they have a HALF of one DAY in common": all halves against all halves. */
    private static void everyTwoThatMeet() {
        for (int first = 0; first < 12; first++) {
            for (int many = 1; many <= Math.min(4, 12 - first); many++) {
                VisitHall x = Due.open("9 in 1 long 4", 2);
                x.ask(0, 1, 5, 10 * first + many, 0);
                x.rivals(0, 1, 1);
                for (int from = 0; from < 12; from++) {
                    for (int last = from; last < Math.min(12, from + 4); last++) {
                        int halves = 10 * from + last - from + 1;
                        boolean meets = false;
                        for (int h = from; h <= last; h++) {
                            meets |= h >= first && h < first + many;
                        }
                        String both = (10 * first + many) + " and " + halves;
                        D.due("16: of one prisoner, " + both, x.why(0, 1, 5, halves), meets ? 7 : 0);
                        D.due("16: of rivals, " + both, x.why(1, 2, 5, halves), meets ? 8 : 0);
                    }
                }
            }
        }
    }

    /** ".. of one DAY". */
    private static void meetOnOneDay() {
        VisitHall x = Due.open("9 in 1", 2);
        x.rivals(0, 1, 1);
        x.ask(0, 1, 5, 1, 0);
        int[] days = {4, 5, 6, 12};
        for (int day : days) {
            D.due("16: of one prisoner, day " + day, x.why(0, 1, day, 1), day == 5 ? 7 : 0);
            D.due("16: of rivals, day " + day, x.why(1, 2, day, 1), day == 5 ? 8 : 0);
        }
    }

    /** "(both being LET)": nobody meets one that waits or is given back, and no table is theirs. */
    private static void meetWhatIsLet() {
        VisitHall x = Due.open("1 in 1", 3);
        x.list(1, 0, 1);
        x.rivals(0, 2, 1);
        x.ask(0, 1, 5, 1, 0);
        x.ask(0, 1, 5, 41, 1);
        D.due("18: it waits", x.visit(1, 5), 1);
        may("the visitor of one that waits", x, 1, 1, 5, 41);
        may("a rival of one that waits", x, 2, 4, 5, 41);
        D.due("21: none let", x.hall(5, 4, 0), 0);
        refused("the visitor of one that is let", x, 1, 1, 5, 1, 7);
        refused("a rival of one that is let", x, 2, 4, 5, 1, 8);
        x.giveBack(1);
        may("the visitor of one that is given back", x, 1, 1, 5, 41);
        may("a rival of one that is given back", x, 2, 4, 5, 41);
        x.giveBack(0);
        may("the visitor of one that was let", x, 1, 1, 5, 1);
        may("a rival of one that was let", x, 2, 4, 5, 1);
        may("the prisoner of one that was let", x, 0, 1, 5, 1);
        D.due("21: none let", x.hall(5, 0, 0), 0);
    }

    /** "TABLES 1 .. 6 (3 at first) .. so many VISITS may be LET at a HALF". */
    private static void tablesOfTheRule() {
        for (int tables = 0; tables <= 6; tables++) {
            VisitHall x = Due.open("9 in 1", 8);
            if (tables > 0) {
                D.due("19: 3 at first", x.rule(0, tables), 3);
            }
            int most = tables == 0 ? 3 : tables;
            for (int p = 0; p < 8; p++) {
                D.due("21: free, " + p + " of " + most, x.hall(5, 3, 1), Math.max(0, most - p));
                D.due("15: visit " + p + " of " + most, x.ask(p, 1 << p, 5, 31, 0), p < most ? p : -19);
            }
            D.due("21: let", x.hall(5, 3, 0), most);
        }
    }

    /** "or what SHEET 0 has for the DAY .. (0 .. 6)", "what is not 0 .. 6 counts as 0 TABLES". */
    private static void tablesOfTheSheet() {
        int[] marks = {0, 1, 2, 5, 6, 7, 8, 127, 128, 255, 256, 257, 262, 263, -1, -128, -250, -256,
            Integer.MIN_VALUE, Integer.MAX_VALUE};
        int[] tables = {0, 1, 2, 5, 6, 0, 0, 0, 0, 0, 0, 1, 6, 0, 0, 0, 6, 0, 0, 0};
        for (int i = 0; i < marks.length; i++) {
            VisitHall x = Due.open("9 in 1", 8);
            x.sheet(0, 6);
            x.mark(0, 5, marks[i]);
            for (int p = 0; p < 8; p++) {
                D.due("15: visit " + p + ", marked " + marks[i], x.ask(p, 1 << p, 5, 31, 0), p < tables[i] ? p : -19);
            }
            D.due("21: free at another half, marked " + marks[i], x.hall(5, 4, 1), tables[i]);
        }
    }

    /** ".. if it has such a place": the last place and the first behind it, with the sheet as long as can be. */
    private static void sheetPlaces() {
        for (int places : new int[] {0, 1, 2, 59, 60}) {
            VisitHall x = Due.open("9 in 1", 1);
            x.sheet(0, places);
            for (int day = 0; day <= 61; day++) {
                D.due("16: day " + day + " of " + places, x.why(0, 1, day, 1), day < places ? 9 : 0);
                D.due("21: day " + day + " of " + places, x.hall(day, 0, 1), day < places ? 0 : 3);
            }
            D.due("21: day 400", x.hall(400, 0, 1), 3);
            D.due("26: lose", x.lose(0), places);
            D.due("21: a missing sheet has no place", x.hall(0, 0, 1), 3);
            x.sheet(1, 60);
            D.due("21: nor does SHEET 1 tell", x.hall(0, 0, 1), 3);
        }
    }

    /** "9 there is no TABLE at one of its HALVES": at the first, between, at the last, and not beside it. */
    private static void tablesAtEachHalf() {
        VisitHall x = Due.open("9 in 1 long 4", 3);
        x.rule(0, 1);
        x.ask(0, 1, 5, 51, 0);
        for (int first = 0; first <= 8; first++) {
            boolean has = first <= 5 && 5 <= first + 3;
            D.due("16: four from " + first, x.why(1, 2, 5, 10 * first + 4), has ? 9 : 0);
        }
        D.due("16: up to it", x.why(1, 2, 5, 41), 0);
        D.due("16: itself", x.why(1, 2, 5, 51), 9);
        D.due("16: behind it", x.why(1, 2, 5, 61), 0);
        x.ask(1, 2, 5, 41, 0);
        x.ask(1, 2, 5, 61, 0);
        D.due("15: let on either side", x.count(3), 3);
    }

    /** "TABLES still free there (1; 0 at least)": fewer tables told anew than are in use. */
    private static void freeTables() {
        VisitHall x = Due.open("9 in 1", 6);
        x.rule(0, 6);
        for (int p = 0; p < 6; p++) {
            x.ask(p, 1 << p, 5, 31, 0);
        }
        for (int tables = 6; tables >= 1; tables--) {
            x.rule(0, tables);
            D.due("21: all are in use, of " + tables, x.hall(5, 3, 1), 0);
            D.due("21: none is in use, of " + tables, x.hall(5, 4, 1), tables);
            D.due("21: six are let", x.hall(5, 3, 0), 6);
        }
        x.giveBack(0);
        D.due("21: five let, one table", x.hall(5, 3, 1), 0);
    }

    /** "1 the PRISONER is not HERE". */
    private static void reason1() {
        VisitHall x = Due.open("9 in 1", 2);
        x.visitor(2, 0, 0);
        may("before", x, 0, 1, 5, 1);
        x.move(0);
        refused("behind a move", x, 0, 1, 5, 1, 1);
        refused("a lawyer's", x, 0, 4, 5, 1, 1);
        may("of another", x, 1, 2, 5, 1);
        may("a lawyer's of another", x, 1, 4, 5, 1);
    }

    /** "2 a VISITOR is not on the LIST (LAWYERS need not be)": one of three, in each place. */
    private static void reason2() {
        VisitHall x = Due.open("9 in 1", 3);
        for (int v = 0; v < 3; v++) {
            x.list(0, v, 1);
        }
        x.visitor(2, 0, 0);
        x.visitor(1, 0, 0);
        x.visitor(3, 0, 0);
        may("all three", x, 0, 7, 5, 1);
        for (int v = 0; v < 3; v++) {
            x.list(0, v, 0);
            refused("without " + v, x, 0, 7, 5, 1, 2);
            may("the others", x, 0, 7 & ~(1 << v), 5, 1);
            x.list(0, v, 1);
        }
        may("a lawyer", x, 0, 8, 5, 1);
        may("a lawyer with one of the list", x, 0, 9, 5, 1);
        x.list(0, 0, 0);
        refused("a lawyer with one of no list", x, 0, 9, 5, 1, 2);
        refused("kin", x, 0, 16, 5, 1, 2);
        x.list(0, 4, 1);
        refused("a child with kin who is on the list", x, 0, 48, 5, 1, 2);
    }

    /** "3 an ORDER bars one on that DAY". */
    private static void reason3() {
        VisitHall x = Due.open("9 in 1", 3);
        x.visitor(2, 0, 0);
        x.list(0, 1, 1);
        x.list(0, 2, 1);
        for (int v = 0; v < 4; v++) {
            x.order(0, v, 10);
            int three = v == 3 ? 11 : 7;
            may(v + " the day before", x, 0, three, 9, 1);
            refused(v + " the day", x, 0, three, 10, 1, 3);
            refused(v + " the day behind", x, 0, three, 11, 1, 3);
            refused(v + " alone", x, 0, 1 << v, 10, 1, 3);
            may("the others of " + v, x, 0, three & ~(1 << v), 10, 1);
            x.lift(0, v);
        }
    }

    /** "4 a CHILD comes without KIN who is no CHILD": every set of one of each kind, and two children. */
    private static void reason4() {
        VisitHall x = new VisitHall();
        Due.right(x, 0, "9 in 1");
        x.prisoner(0, 0);
        int[] kinds = {0, 1, 2, 3, 3, 3};
        for (int v = 0; v < kinds.length; v++) {
            x.visitor(kinds[v], 9 - v, 0);
            x.list(0, v, 1);
        }
        for (int set = 1; set < 64; set++) {
            if (Integer.bitCount(set) <= 3) {
                boolean child = (set & 56) != 0;
                D.due("16: set " + set, x.why(0, set, 5, 1), child && (set & 2) == 0 ? 4 : 0);
            }
        }
    }

    /** "5 (no LAWYER's) the WEEKDAY, or it lasts too long, or there is no TEXT". */
    private static void reason5() {
        VisitHall x = Due.open("9 in 1 long 3 not 2", 1);
        x.prisoner(1, 5);
        x.visitor(2, 0, 0);
        x.list(1, 0, 1);
        refused("the weekday", x, 0, 1, 9, 1, 5);
        refused("too long", x, 0, 1, 10, 4, 5);
        refused("both", x, 0, 1, 9, 4, 5);
        refused("no text", x, 1, 1, 10, 1, 5);
        refused("with a lawyer", x, 0, 3, 9, 1, 5);
        may("neither", x, 0, 1, 10, 3);
        may("a lawyer's on the weekday, four halves", x, 0, 2, 9, 4);
        may("a lawyer's without a text", x, 1, 2, 9, 4);
    }

    /** "6 (no LAWYER's) .. M DAYS, that DAY in them, with more VISITS of the PRISONER, LET, no LAWYER's". */
    private static void reason6() {
        VisitHall x = Due.open("2 in 3", 2);
        x.visitor(2, 0, 0);
        x.list(1, 0, 1);
        x.list(0, 1, 1);
        x.ask(0, 1, 10, 1, 0);
        x.ask(1, 1, 10, 11, 0);
        x.ask(0, 4, 10, 21, 0);
        may("another's and a lawyer's do not count", x, 0, 1, 10, 31);
        x.ask(0, 2, 11, 31, 0);
        refused("by any visitor, also with a lawyer", x, 0, 5, 10, 41, 6);
        refused("the first day that has both within", x, 0, 1, 9, 41, 6);
        may("the day before", x, 0, 1, 8, 41);
        refused("the last day that has both within", x, 0, 1, 12, 41, 6);
        may("the day behind", x, 0, 1, 13, 41);
        may("a lawyer's", x, 0, 4, 10, 41);
        may("the other prisoner", x, 1, 2, 10, 41);
        x.days(12);
        refused("past ones count", x, 0, 1, 12, 41, 6);
        may("past ones, far enough", x, 0, 1, 13, 41);
    }

    /** "7 the PRISONER or one of the VISITORS has a VISIT that it would MEET": each by itself. */
    private static void reason7() {
        VisitHall x = Due.open("9 in 1", 4);
        x.visitor(2, 0, 0);
        x.list(0, 1, 1);
        x.list(0, 2, 1);
        x.list(1, 0, 1);
        x.list(2, 3, 1);
        x.ask(0, 7, 5, 42, 0);
        refused("the prisoner with a lawyer", x, 0, 16, 5, 51, 7);
        refused("the first visitor", x, 1, 1, 5, 41, 7);
        refused("the second visitor", x, 1, 2, 5, 41, 7);
        refused("the third visitor, with another", x, 2, 12, 5, 32, 7);
        may("the third visitor's companion", x, 2, 8, 5, 32);
        may("neither", x, 3, 8, 5, 42);
        x.ask(3, 16, 5, 61, 0);
        refused("a lawyer who is with another", x, 1, 16, 5, 61, 7);
        may("a lawyer before that", x, 1, 16, 5, 51);
    }

    /** "8 a RIVAL family: it would MEET one whose PRISONER's FAMILY is a RIVAL of its own PRISONER's". */
    private static void reason8() {
        for (int f = 0; f < 10; f++) {
            VisitHall x = new VisitHall();
            Due.right(x, 0, "9 in 1");
            for (int p = 0; p < 10; p++) {
                x.prisoner(0, p);
                x.visitor(0, 9 - p, 0);
                x.list(p, p, 1);
            }
            x.ask(f, 1 << f, 5, 1, 0);
            for (int g = 0; g < 10; g++) {
                if (g != f) {
                    may("of " + f + " and " + g + " before", x, g, 1 << g, 5, 1);
                    x.rivals(f, g, 1);
                    refused("of " + f + " and " + g, x, g, 1 << g, 5, 1, 8);
                    may("of " + f + " and " + g + " at another half", x, g, 1 << g, 5, 11);
                    x.rivals(g, f, 0);
                    may("of " + f + " and " + g + " behind", x, g, 1 << g, 5, 1);
                }
            }
        }
    }

    /** The prisoners' families count, not the visitors'; two prisoners of one family never are rivals. */
    private static void reason8Kinds() {
        VisitHall x = new VisitHall();
        Due.right(x, 0, "9 in 1");
        int[] families = {4, 4, 5};
        int[] visitors = {4, 6, 4};
        for (int p = 0; p < 3; p++) {
            x.prisoner(0, families[p]);
            x.visitor(0, visitors[p], 0);
            x.list(p, p, 1);
        }
        x.visitor(2, 6, 0);
        x.rivals(4, 6, 1);
        x.ask(0, 1, 5, 1, 0);
        may("a visitor of a rival family", x, 1, 2, 5, 1);
        may("a visitor of the same family", x, 2, 4, 5, 1);
        x.rivals(4, 5, 1);
        refused("a prisoner of a rival family", x, 2, 4, 5, 1, 8);
        refused("a lawyer's for a prisoner of a rival family", x, 2, 8, 5, 1, 8);
        may("a prisoner of one's own family", x, 1, 2, 5, 1);
        x.ask(1, 8, 5, 11, 0);
        refused("a lawyer's is met, too", x, 2, 4, 5, 11, 8);
    }

    /**
     * "It is REFUSED for the first of these REASONS": every set of the nine, made true at once. The fifth comes in its
     * three forms, the seventh by a visitor and by the prisoner.
     */
    private static void firstOfTheReasons() {
        for (int form = 0; form < 6; form++) {
            for (int set = 0; set < 512; set++) {
                VisitHall x = hallWith(set, form % 3, form / 3);
                int visitors = has(set, 4) ? 3 : 1;
                int due = first(set);
                D.due("16: reasons " + Integer.toBinaryString(set) + ", form " + form, x.why(0, visitors, 8, 42), due);
                D.due("15: reasons " + Integer.toBinaryString(set) + ", form " + form,
                    x.ask(0, visitors, 8, 42, 0), due == 0 ? x.count(2) - 1 : -10 - due);
            }
        }
    }

    private static boolean has(int set, int reason) {
        return (set >> reason - 1 & 1) == 1;
    }

    private static int first(int set) {
        return set == 0 ? 0 : Integer.numberOfTrailingZeros(set) + 1;
    }

    /** Prisoner 0 is asked for by visitor 0, with the child 1 for reason 4, on day 8 for halves 4 and 5. */
    private static VisitHall hallWith(int set, int fifth, int seventh) {
        VisitHall x = new VisitHall();
        boolean noText = has(set, 5) && fifth == 2;
        Due.right(x, 0, "9 in 1 long 4");
        x.prisoner(noText ? 3 : 0, 0);
        x.prisoner(0, 1);
        x.prisoner(0, 2);
        int[] kinds = {0, 3, 0, 0, 0, 2};
        for (int kind : kinds) {
            x.visitor(kind, 0, 0);
        }
        int[][] lists = {{0, 0}, {0, 1}, {0, 2}, {1, 0}, {1, 3}, {2, 4}};
        for (int[] on : lists) {
            x.list(on[0], on[1], 1);
        }
        x.ask(0, 4, 8, 1, 0);
        if (has(set, 7)) {
            int number = seventh == 0 ? x.ask(1, 1, 8, 41, 0) : x.ask(0, 32, 8, 51, 0);
            D.due("15: for reason 7", number, noText ? 0 : 1);
        }
        if (has(set, 8)) {
            x.ask(2, 16, 8, 51, 0);
            x.rivals(2, 0, 1);
        }
        if (!noText) {
            Due.right(x, 0, (has(set, 6) ? "1 in 1" : "2 in 1")
                + (has(set, 5) ? fifth == 0 ? " long 1" : " not 1" : ""));
        }
        tablesFor(x, has(set, 9));
        if (has(set, 3)) {
            x.order(0, 0, 8);
        }
        if (has(set, 2)) {
            x.list(0, 0, 0);
        }
        if (has(set, 1)) {
            x.move(0);
        }
        return x;
    }

    /** As many tables as are in use at halves 4 and 5 of day 8, or one more. */
    private static void tablesFor(VisitHall x, boolean full) {
        int used = Math.max(x.hall(8, 4, 0), x.hall(8, 5, 0));
        x.sheet(0, 9);
        x.mark(0, 8, full ? used : used + 1);
    }

    /** Of a lawyer's: 2, 4, 5 and 6 do not count, though all of them be true of the prisoner. */
    private static void firstOfALawyersReasons() {
        for (int set = 0; set < 512; set++) {
            VisitHall x = hallOfLawyers(set);
            int due = first(set & (1 | 4 | 64 | 128 | 256));
            D.due("16: a lawyer's reasons " + Integer.toBinaryString(set), x.why(0, 3, 8, 42), due);
            D.due("15: a lawyer's reasons " + Integer.toBinaryString(set), x.ask(0, 3, 8, 42, 0),
                due == 0 ? x.count(2) - 1 : -10 - due);
        }
    }

    private static VisitHall hallOfLawyers(int set) {
        VisitHall x = new VisitHall();
        Due.right(x, 0, has(set, 6) ? "0 in 9" : "9 in 9");
        for (int p = 0; p < 3; p++) {
            x.prisoner(has(set, 5) ? 3 : 0, p);
        }
        for (int v = 0; v < 3; v++) {
            x.visitor(2, 0, 0);
            x.list(0, v, has(set, 2) ? 0 : 1);
        }
        if (has(set, 7)) {
            D.due("15: for reason 7", x.ask(1, 2, 8, 41, 0), 0);
        }
        if (has(set, 8)) {
            D.due("15: for reason 8", x.ask(2, 4, 8, 51, 0), has(set, 7) ? 1 : 0);
            x.rivals(0, 2, 1);
        }
        tablesFor(x, has(set, 9));
        if (has(set, 3)) {
            x.order(0, 1, 0);
        }
        if (has(set, 1)) {
            x.move(0);
        }
        return x;
    }
}
