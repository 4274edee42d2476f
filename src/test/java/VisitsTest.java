/** Promises 15 to 19: visits, the reasons for which they are refused, those who wait, and the rules. */
public final class VisitsTest {
    private static final Due D = new Due();

    public static void main(String[] args) {
        badAsks();
        full();
        peopleReasons();
        rightReasons();
        spans();
        spansSideBySide();
        farSpans();
        meetings();
        tables();
        lawyersTakeTables();
        lawyersTakeSeveral();
        lawyersWhoCannot();
        orderOfReasons();
        waiting();
        lookingOnce();
        gone();
        told();
        rules();
        D.end();
    }

    private static void badAsks() {
        VisitHall x = Due.open("9 in 1 long 4", 5);
        x.days(2);
        int[][] bad = {{-1, 1, 2, 1, 0}, {5, 1, 2, 1, 0}, {0, 0, 2, 1, 0}, {0, 32, 2, 1, 0}, {0, 33, 2, 1, 0},
            {0, 15, 2, 1, 0}, {0, -1, 2, 1, 0}, {0, 1 << 31, 2, 1, 0}, {0, 1, 1, 1, 0}, {0, 1, -1, 1, 0},
            {0, 1, 401, 1, 0}, {0, 1, 2, 0, 0}, {0, 1, 2, 5, 0}, {0, 1, 2, 9, 0}, {0, 1, 2, -1, 0}, {0, 1, 2, -9, 0},
            {0, 1, 2, 112, 0}, {0, 1, 2, 103, 0}, {0, 1, 2, 94, 0}, {0, 1, 2, 121, 0},
            {0, 1, 2, Integer.MAX_VALUE, 0}, {0, 1, 2, Integer.MIN_VALUE, 0}};
        for (int[] b : bad) {
            String call = "(" + b[0] + ", " + b[1] + ", " + b[2] + ", " + b[3] + ")";
            D.due("15: ask" + call, x.ask(b[0], b[1], b[2], b[3], b[4]), Due.BAD);
            D.due("16: why" + call, x.why(b[0], b[1], b[2], b[3]), Due.BAD);
        }
        D.due("15: wait 2", x.ask(0, 1, 2, 1, 2), Due.BAD);
        D.due("15: wait -1", x.ask(0, 1, 2, 1, -1), Due.BAD);
        D.due("15: no visit came of these", x.count(2), 0);
        D.due("15: the last half", x.ask(0, 1, 2, 111, 0), 0);
        D.due("15: the last four", x.ask(1, 2, 2, 84, 0), 1);
        D.due("15: the last day", x.ask(2, 4, 400, 1, 0), 2);
    }

    private static void full() {
        VisitHall x = Due.open("0 in 1", 2);
        for (int i = 0; i < 100; i++) {
            D.due("15: visit " + i, x.ask(0, 1, 0, 1, 1), i);
        }
        D.due("15: a hundred and first", x.ask(0, 1, 0, 1, 1), Due.FULL);
        D.due("15: FULL is asked ahead of the reasons", x.ask(0, 2, 0, 1, 0), Due.FULL);
        D.due("15: FULL is asked behind BAD", x.ask(0, 1, 0, 0, 1), Due.BAD);
        D.due("16: why is not full", x.why(0, 2, 0, 1), 2);
        x.giveBack(7);
        D.due("15: a hundred at most ever", x.ask(0, 1, 0, 1, 1), Due.FULL);
        D.due("27: visits ever", x.count(2), 100);
    }

    private static void peopleReasons() {
        VisitHall x = Due.open("9 in 1", 2);
        x.visitor(1, 0, 0);
        x.visitor(2, 0, 0);
        x.visitor(3, 0, 0);
        x.visitor(3, 0, 0);
        for (int v = 2; v < 6; v++) {
            x.list(0, v, 1);
        }
        D.due("15: 2 not on the list", x.ask(0, 2, 0, 1, 1), -12);
        D.due("15: 2 one of two is not", x.ask(0, 3, 0, 1, 1), -12);
        D.due("16: 2", x.why(0, 3, 0, 1), 2);
        D.due("15: 2 a lawyer need not be", x.why(1, 8, 0, 1), 0);
        D.due("15: 2 nor with others", x.why(1, 10, 0, 1), 0);
        D.due("15: 4 a child alone", x.ask(0, 16, 0, 1, 1), -14);
        D.due("15: 4 two children", x.ask(0, 48, 0, 1, 1), -14);
        D.due("15: 4 with a visitor", x.ask(0, 17, 0, 1, 1), -14);
        D.due("15: 4 with a lawyer", x.ask(0, 24, 0, 1, 1), -14);
        D.due("15: 4 with kin", x.why(0, 20, 0, 1), 0);
        D.due("15: 4 two with kin", x.why(0, 52, 0, 1), 0);
        x.order(0, 3, 5);
        D.due("15: 3 ahead of the order", x.why(0, 8, 4, 1), 0);
        D.due("15: 3 lawyers, too", x.ask(0, 8, 5, 1, 1), -13);
        D.due("15: 3 for that prisoner", x.why(1, 8, 5, 1), 0);
        D.due("15: 3 one of three", x.ask(0, 8 + 4 + 1, 6, 1, 1), -13);
        D.due("15: 3 others", x.why(0, 5, 6, 1), 0);
        x.list(0, 0, 0);
        D.due("15: 2 stands ahead of 3", x.why(0, 9, 6, 1), 2);
        x.order(0, 5, 0);
        D.due("15: 3 stands ahead of 4", x.why(0, 32, 6, 1), 3);
        x.move(0);
        D.due("15: 1 stands ahead of all", x.ask(0, 9, 6, 1, 1), -11);
        D.due("15: 1 lawyers, too", x.ask(0, 8, 6, 1, 1), -11);
        D.due("15: nothing came of these", x.count(2), 0);
    }

    private static void rightReasons() {
        VisitHall x = Due.open("9 in 1 not 0 or 6", 2);
        x.visitor(2, 0, 0);
        x.prisoner(3, 0);
        x.list(2, 0, 1);
        D.due("15: 5 weekday 0", x.ask(0, 1, 7, 1, 1), -15);
        D.due("15: 5 weekday 6", x.ask(0, 1, 6, 1, 1), -15);
        D.due("15: 5 weekday 6, far off", x.ask(0, 1, 398, 1, 1), -15);
        D.due("15: 5 weekday 1", x.why(0, 1, 8, 1), 0);
        D.due("15: 5 two halves", x.why(0, 1, 8, 2), 0);
        D.due("15: 5 three halves", x.ask(0, 1, 8, 3, 1), -15);
        D.due("15: 5 no text", x.ask(2, 1, 8, 1, 1), -15);
        D.due("15: 5 a lawyer's", x.why(2, 4, 7, 4), 0);
        D.due("15: 5 with a lawyer it is no lawyer's", x.ask(2, 5, 8, 1, 1), -15);
        Due.right(x, 0, "9 in 1 long 1");
        D.due("15: 5 one half", x.why(0, 1, 7, 1), 0);
        D.due("15: 5 two halves now", x.why(0, 1, 7, 2), 5);
        Due.right(x, 0, "9 in 1 long 4");
        D.due("15: 5 four halves", x.why(0, 1, 7, 4), 0);
        D.due("15: no class of another", x.why(2, 1, 8, 1), 5);
    }

    private static void spans() {
        VisitHall x = Due.open("2 in 5", 2);
        x.visitor(2, 0, 0);
        x.ask(0, 1, 10, 1, 0);
        x.ask(0, 1, 13, 1, 0);
        int[] reasons = {0, 0, 0, 0, 6, 6, 6, 6, 6, 6, 0};
        for (int day = 5; day <= 15; day++) {
            D.due("15: 6 on day " + day, x.why(0, 1, day, 11), reasons[day - 5]);
        }
        D.due("15: 6 of another prisoner", x.why(1, 2, 11, 11), 0);
        D.due("15: 6 a lawyer's", x.ask(0, 4, 11, 11, 0), 2);
        D.due("15: 6 lawyers' do not count", x.ask(0, 4, 15, 11, 0), 3);
        D.due("15: 6 lawyers' do not count", x.ask(0, 1, 15, 1, 0), 4);
        D.due("15: 6 waits", x.ask(0, 1, 11, 1, 1), 5);
        D.due("15: 6 those that wait do not count", x.why(0, 1, 8, 1), 0);
        D.due("15: 6 given back", x.giveBack(1), 1);
        D.due("15: 6 the other is let", x.visit(5, 5), 0);
        x.days(12);
        D.due("15: 6 past ones count", x.why(0, 1, 12, 1), 6);
        D.due("15: 6 past ones count", x.why(0, 1, 13, 1), 6);
        D.due("15: 6 till they are far enough", x.why(0, 1, 16, 1), 0);
        Due.right(x, 0, "1 in 60");
        D.due("15: 6 in 60 days", x.why(0, 1, 74, 1), 6);
        D.due("15: 6 in 60 days", x.why(0, 1, 75, 1), 0);
        D.due("15: 6 at the last day", x.ask(0, 1, 400, 1, 0), 6);
        D.due("15: 6 at the last day", x.why(0, 1, 341, 1), 6);
        D.due("15: 6 at the last day", x.why(0, 1, 340, 1), 0);
    }

    /** Two visits that no span of three days has both of; one between them is in a span with either. */
    private static void spansSideBySide() {
        VisitHall x = Due.open("2 in 3", 1);
        x.ask(0, 1, 1, 1, 0);
        x.ask(0, 1, 4, 1, 0);
        D.due("15: 6 with either", x.ask(0, 1, 3, 1, 0), 2);
        D.due("15: 6 with two of them", x.ask(0, 1, 2, 1, 0), -16);
        D.due("15: 6 with two of them", x.ask(0, 1, 5, 1, 0), -16);
        D.due("15: 6 with one of them", x.ask(0, 1, 6, 1, 0), 3);
        D.due("15: 6 with one of them", x.ask(0, 1, 0, 1, 0), 4);
    }

    private static void farSpans() {
        VisitHall x = Due.open("1 in 7 far 8 and 2", 1);
        x.visitor(0, 0, 7);
        x.visitor(0, 0, 8);
        x.visitor(2, 0, 20);
        x.list(0, 1, 1);
        x.list(0, 2, 1);
        D.due("15: 6 near", x.ask(0, 1, 3, 1, 0), 0);
        D.due("15: 6 near", x.why(0, 2, 3, 11), 6);
        D.due("15: 6 far", x.ask(0, 5, 3, 11, 0), 1);
        D.due("15: 6 near again", x.why(0, 3, 3, 21), 6);
        D.due("15: 6 far with a lawyer", x.ask(0, 9, 3, 21, 0), 2);
        D.due("15: 6 three are enough", x.ask(0, 4, 3, 31, 0), -16);
        Due.right(x, 0, "0 in 7 far 0 and 4");
        D.due("15: 6 far is 0 and more", x.ask(0, 1, 3, 31, 0), 3);
        D.due("15: 6 and no more", x.ask(0, 1, 3, 41, 0), -16);
    }

    private static void meetings() {
        VisitHall x = Due.open("9 in 1 long 4", 4);
        x.visitor(2, 0, 0);
        x.list(1, 0, 1);
        x.rule(0, 6);
        x.ask(0, 1, 5, 42, 0);
        D.due("15: 7 the prisoner", x.why(0, 16, 5, 42), 7);
        D.due("15: 7 the visitor", x.why(1, 1, 5, 42), 7);
        D.due("15: 7 one of the visitors", x.why(1, 3, 5, 51), 7);
        D.due("15: 7 one half of it", x.why(0, 1, 5, 34), 7);
        D.due("15: 7 up to it", x.why(0, 1, 5, 22), 0);
        D.due("15: 7 into it", x.why(0, 1, 5, 23), 7);
        D.due("15: 7 behind it", x.why(0, 1, 5, 61), 0);
        D.due("15: 7 its last half", x.why(0, 1, 5, 54), 7);
        D.due("15: 7 another day", x.why(0, 1, 6, 42), 0);
        D.due("15: 7 others", x.why(1, 2, 5, 42), 0);
        x.rivals(0, 1, 1);
        x.rivals(3, 0, 1);
        D.due("15: 8 rivals", x.ask(1, 2, 5, 51, 0), -18);
        D.due("15: 8 a lawyer's, too", x.ask(1, 16, 5, 51, 0), -18);
        D.due("15: 8 told the other way", x.ask(3, 8, 5, 14, 0), -18);
        D.due("15: 8 no half in common", x.why(3, 8, 5, 13), 0);
        D.due("15: 8 another day", x.why(3, 8, 4, 14), 0);
        D.due("15: 8 no rivals", x.why(2, 4, 5, 42), 0);
        D.due("15: 7 stands ahead of 8", x.why(1, 1, 5, 42), 7);
        D.due("15: 8 waits", x.ask(1, 2, 5, 51, 1), 1);
        D.due("15: 7 not with one that waits", x.why(1, 16, 5, 61), 0);
        D.due("15: 8 not with one that waits", x.ask(0, 16, 5, 61, 0), 2);
        D.due("8: one that stays barred", x.rivals(0, 2, 1), 0);
        D.due("8: waits", x.visit(1, 5), 1);
        D.due("8: rivals no more", x.rivals(1, 0, 0), 1);
        D.due("8: is let", x.visit(1, 5), 0);
        D.due("8: rivals again", x.rivals(1, 0, 1), 0);
        D.due("8: what was let stays", x.visit(1, 5), 0);
    }

    private static void tables() {
        VisitHall x = Due.open("9 in 1", 6);
        x.rule(0, 2);
        x.ask(0, 1, 3, 1, 0);
        x.ask(1, 2, 3, 2, 0);
        D.due("15: 9 at the first half", x.ask(2, 4, 3, 2, 0), -19);
        D.due("15: 9 free at the second", x.ask(2, 4, 3, 12, 0), 2);
        D.due("15: 9 full at the second", x.ask(3, 8, 3, 11, 0), -19);
        D.due("15: 9 free at the third", x.ask(3, 8, 3, 21, 0), 3);
        D.due("15: 9 up to a full half", x.why(5, 32, 3, 101), 0);
        D.due("15: 9 another day", x.ask(4, 16, 4, 1, 0), 4);
        D.due("15: 9 waits", x.ask(5, 32, 3, 2, 1), 5);
        x.sheet(0, 4);
        x.mark(0, 3, 3);
        D.due("15: 9 by the sheet", x.why(5, 32, 3, 2), 0);
        x.mark(0, 3, 2);
        D.due("15: 9 by the sheet", x.why(5, 32, 3, 2), 9);
        x.mark(0, 3, 0);
        D.due("15: 9 no table", x.why(5, 32, 3, 101), 9);
        D.due("15: 9 no such place on the sheet", x.why(5, 32, 4, 1), 0);
        x.rivals(0, 5, 1);
        D.due("15: 8 stands ahead of 9", x.why(5, 32, 3, 1), 8);
    }

    private static void lawyersTakeTables() {
        VisitHall x = Due.open("9 in 1 long 4", 6);
        x.visitor(2, 0, 0);
        x.rule(0, 2);
        x.ask(0, 1, 3, 13, 0);
        x.ask(1, 2, 3, 12, 0);
        x.ask(2, 4, 3, 31, 0);
        D.due("16: by giving back", x.why(5, 64, 3, 13), 0);
        D.due("16: why changes nothing", x.hall(3, 1, 0), 2);
        D.due("16: why changes nothing", x.count(3), 3);
        D.due("16: not for others", x.why(5, 32, 3, 13), 9);
        D.due("15: a lawyer's is let", x.ask(5, 64, 3, 13, 0), 3);
        D.due("15: the greatest number at half 1", x.visit(1, 5), 1);
        D.due("15: and at half 3", x.visit(2, 5), 1);
        D.due("15: this one stays", x.visit(0, 5), 0);
        D.due("15: the lawyer's is let", x.visit(3, 5), 0);
        D.due("17: others get their tables again", x.giveBack(3), 2);
        D.due("17: their number stays", x.visit(1, 5), 0);
    }

    /** With tables told anew there may be more let than tables: then several go at one half. */
    private static void lawyersTakeSeveral() {
        VisitHall x = Due.open("9 in 1 long 4", 6);
        x.visitor(2, 0, 0);
        x.rule(0, 5);
        x.ask(0, 1, 3, 11, 0);
        x.ask(1, 2, 3, 11, 0);
        x.ask(2, 4, 3, 12, 0);
        x.ask(3, 8, 3, 21, 0);
        x.rule(0, 2);
        D.due("15: a lawyer's is let", x.ask(5, 64, 3, 12, 0), 4);
        D.due("15: the first stays", x.visit(0, 5), 0);
        D.due("15: the second goes", x.visit(1, 5), 1);
        D.due("15: the third goes", x.visit(2, 5), 1);
        D.due("15: which has freed a table for the fourth", x.visit(3, 5), 0);
        D.due("21: full", x.hall(3, 1, 1), 0);
        D.due("21: full", x.hall(3, 2, 1), 0);
        lawyersTakeNoMore();
    }

    /** Full halves ahead of a visit and behind it are nothing to it. */
    private static void lawyersTakeNoMore() {
        VisitHall x = Due.open("9 in 1", 4);
        x.visitor(2, 0, 0);
        x.rule(0, 1);
        x.ask(0, 1, 3, 31, 0);
        x.ask(1, 2, 3, 61, 0);
        D.due("15: between full halves", x.ask(2, 4, 3, 42, 0), 2);
        D.due("15: a lawyer's takes that table", x.ask(3, 16, 3, 42, 0), 3);
        int[] states = {0, 0, 1, 0};
        for (int v = 0; v < 4; v++) {
            D.due("15: state of " + v, x.visit(v, 5), states[v]);
        }
    }

    private static void lawyersWhoCannot() {
        VisitHall x = Due.open("9 in 1 long 4", 6);
        x.visitor(2, 0, 0);
        x.visitor(2, 0, 0);
        x.rule(0, 1);
        x.ask(0, 1, 3, 12, 0);
        D.due("15: a lawyer's at half 3", x.ask(1, 64, 3, 31, 0), 1);
        D.due("15: lawyers' are not given back", x.ask(2, 128, 3, 13, 0), -19);
        D.due("15: then all stays", x.visit(0, 5), 0);
        D.due("21: then all stays", x.hall(3, 1, 0), 1);
        D.due("16: why says so", x.why(2, 128, 3, 13), 9);
        D.due("21: and changes nothing", x.hall(3, 1, 0), 1);
        D.due("15: it may wait", x.ask(2, 128, 3, 13, 1), 2);
        D.due("17: and is let as told", x.giveBack(1), 1);
        D.due("17: for another", x.visit(0, 5), 1);
        x.sheet(0, 5);
        D.due("15: with no tables at all", x.ask(3, 64, 4, 1, 0), -19);
        D.due("15: with a lawyer it is no lawyer's", x.ask(4, 80, 3, 11, 0), -19);
    }

    private static void orderOfReasons() {
        VisitHall x = Due.open("1 in 1 not 1", 4);
        x.visitor(3, 0, 0);
        x.list(0, 4, 1);
        x.rule(0, 1);
        x.rivals(0, 1, 1);
        x.ask(0, 1, 0, 1, 0);
        D.due("15: 4 stands ahead of 5", x.why(0, 16, 1, 1), 4);
        D.due("15: 5 stands ahead of 6", x.why(0, 1, 0, 3), 5);
        D.due("15: 6 stands ahead of 7", x.why(0, 1, 0, 1), 6);
        Due.right(x, 0, "2 in 1");
        D.due("15: 7 stands ahead of 9", x.why(0, 1, 0, 1), 7);
        D.due("15: 8 stands ahead of 9", x.why(1, 2, 0, 1), 8);
        D.due("15: 9", x.why(2, 4, 0, 1), 9);
    }

    private static void waiting() {
        VisitHall x = Due.open("9 in 1", 6);
        x.rule(0, 1);
        D.due("15: let although it may wait", x.ask(0, 1, 3, 2, 1), 0);
        x.ask(1, 2, 3, 1, 1);
        x.ask(2, 4, 3, 1, 1);
        x.ask(3, 8, 3, 12, 1);
        x.ask(4, 16, 3, 11, 1);
        D.due("17: the first that waits, and one beside", x.giveBack(0), 2);
        int[] states = {2, 0, 1, 0, 1};
        for (int v = 0; v < 5; v++) {
            D.due("18: state of " + v, x.visit(v, 5), states[v]);
        }
        D.due("17: one that waits is given back", x.giveBack(2), 0);
        D.due("17: it is given back", x.visit(2, 5), 2);
        x.list(4, 4, 0);
        D.due("17: not on the list now", x.giveBack(3), 0);
        D.due("18: it goes on waiting", x.visit(4, 5), 1);
        x.list(4, 4, 1);
        D.due("5: a list makes nobody be looked at", x.visit(4, 5), 1);
        D.due("17: another is given back", x.giveBack(1), 1);
        D.due("18: it is let", x.visit(4, 5), 0);
        x.ask(5, 32, 3, 11, 1);
        x.days(4);
        D.due("19: for a day that is past", x.rule(0, 3), 1);
        D.due("19: nobody is let", x.visit(5, 5), 1);
    }

    /** Each is looked at once: who was passed before room came has to wait for the next time. */
    private static void lookingOnce() {
        VisitHall x = Due.open("9 in 1 long 4", 5);
        x.visitor(2, 0, 0);
        x.visitor(2, 0, 0);
        x.rule(0, 1);
        x.rivals(0, 4, 1);
        x.ask(4, 16, 3, 31, 0);
        x.ask(1, 2, 3, 11, 1);
        x.ask(2, 4, 3, 11, 1);
        x.ask(0, 32, 3, 14, 1);
        D.due("15: rivals keep the lawyer's waiting", x.visit(3, 5), 1);
        D.due("8: told anew", x.rivals(0, 4, 0), 1);
        D.due("15: it took both tables", x.visit(0, 5), 1);
        D.due("15: it took both tables", x.visit(1, 5), 1);
        D.due("15: it is let", x.visit(3, 5), 0);
        D.due("17: given back", x.giveBack(3), 2);
        int[] states = {0, 0, 1, 2};
        for (int v = 0; v < 4; v++) {
            D.due("18: state of " + v, x.visit(v, 5), states[v]);
        }
    }

    private static void gone() {
        VisitHall x = Due.open("9 in 1", 2);
        x.ask(0, 1, 3, 1, 0);
        x.ask(1, 2, 4, 1, 0);
        D.due("17: visit -1", x.giveBack(-1), Due.BAD);
        D.due("17: visit 2", x.giveBack(2), Due.BAD);
        x.days(4);
        D.due("17: its day is past", x.giveBack(0), Due.NO);
        D.due("17: it stays", x.visit(0, 5), 0);
        D.due("17: of today", x.giveBack(1), 0);
        D.due("17: again", x.giveBack(1), Due.NO);
    }

    private static void told() {
        VisitHall x = Due.open("9 in 1", 3);
        x.visitor(2, 0, 0);
        x.ask(2, 12, 9, 72, 0);
        x.ask(1, 8, 10, 114 - 30, 0);
        int[][] due = {{2, 12, 9, 7, 2, 0, 0}, {1, 8, 10, 8, 4, 0, 1}};
        for (int v = 0; v < 2; v++) {
            for (int what = 0; what < 7; what++) {
                D.due("18: visit(" + v + ", " + what + ")", x.visit(v, what), due[v][what]);
            }
        }
        D.due("18: what 7", x.visit(0, 7), Due.BAD);
        D.due("18: what -1", x.visit(0, -1), Due.BAD);
        D.due("18: visit 2", x.visit(2, 0), Due.BAD);
        D.due("18: visit -1", x.visit(-1, 0), Due.BAD);
    }

    private static void rules() {
        VisitHall x = Due.open("9 in 1", 3);
        int[][] bad = {{0, 0}, {0, 7}, {0, -1}, {1, 0}, {1, 101}, {1, -5}, {3, 1}, {-1, 1}};
        for (int[] b : bad) {
            D.due("19: rule(" + b[0] + ", " + b[1] + ")", x.rule(b[0], b[1]), Due.BAD);
        }
        D.due("19: tables", x.rule(0, 1), 3);
        x.ask(0, 1, 0, 1, 1);
        x.ask(1, 2, 0, 1, 1);
        x.ask(2, 4, 0, 1, 1);
        D.due("19: one in", x.rule(1, 100), 4);
        D.due("19: one in", x.rule(1, 1), 100);
        D.due("19: seed", x.rule(2, Integer.MIN_VALUE), 0);
        D.due("19: seed", x.rule(2, 0), Integer.MIN_VALUE);
        D.due("19: these let nobody", x.count(4), 2);
        D.due("19: tables", x.rule(0, 2), 1);
        D.due("19: one is let", x.count(4), 1);
        D.due("19: tables", x.rule(0, 6), 2);
        D.due("19: all are let", x.count(4), 0);
        D.due("19: tables", x.rule(0, 1), 6);
        D.due("19: what was let stays", x.count(3), 3);
    }
}
