/**
 * "A LAWYER's that is REFUSED for 9 is LET all the same, if VISITS can be GIVEN BACK for it ..": the edges of that
 * sentence, part by part.
 */
public final class LawyerEdgesTest {
    private static final Due D = new Due();

    public static void main(String[] args) {
        withATableNobodyGoes();
        oneGoes();
        refusedForNineAlone();
        greatestNumber();
        greatestNumberAtThisHalf();
        rising();
        asLongAsThereIsNoTable();
        oneThatFreesSeveralHalves();
        noLawyers();
        allStays();
        allStaysAtTheLastHalf();
        noTablesAtAll();
        othersDoNot();
        itWaitsAgain();
        nobodyElseIsLookedAt();
        whySaysSo();
        mayWaitItself();
        fromTheWaitingList();
        D.end();
    }

    /** So many prisoners with visitors of their own, and behind these visitors three lawyers. */
    private static VisitHall hall(int people, int tables) {
        VisitHall x = Due.open("9 in 1 long 4", people);
        for (int i = 0; i < 3; i++) {
            x.visitor(2, 0, 0);
        }
        x.rule(0, tables);
        return x;
    }

    private static void states(String what, VisitHall x, String due) {
        D.due(what, Due.states(x, due.length()), due);
        D.due(what + ", visits ever", x.count(2), due.length());
    }

    /** The last free table is taken as anybody's would be. */
    private static void withATableNobodyGoes() {
        VisitHall x = hall(4, 2);
        x.ask(0, 1, 5, 14, 0);
        D.due("one table is free", x.ask(1, 16, 5, 14, 0), 1);
        states("nobody goes", x, "00");
    }

    private static void oneGoes() {
        VisitHall x = hall(4, 1);
        x.ask(0, 1, 5, 11, 0);
        D.due("no table is free", x.ask(1, 16, 5, 11, 0), 1);
        states("one goes", x, "10");
        D.due("one let there", x.hall(5, 1, 0), 1);
    }

    /** "REFUSED for 9": one that is refused for an earlier reason takes nothing. */
    private static void refusedForNineAlone() {
        VisitHall x = hall(4, 1);
        x.rivals(0, 1, 1);
        x.ask(0, 1, 5, 11, 0);
        D.due("8", x.ask(1, 16, 5, 11, 0), -18);
        D.due("7", x.ask(0, 16, 5, 11, 0), -17);
        x.order(2, 4, 5);
        D.due("3", x.ask(2, 16, 5, 11, 0), -13);
        x.move(3);
        D.due("1", x.ask(3, 16, 5, 11, 0), -11);
        states("nobody goes", x, "0");
        D.due("9 alone", x.ask(2, 32, 5, 11, 0), 1);
        states("now one goes", x, "10");
    }

    /** "that of the greatest number of those LET at this HALF": not the last one let, nor one that waits. */
    private static void greatestNumber() {
        VisitHall x = hall(6, 2);
        x.ask(0, 1, 5, 11, 0);
        x.ask(1, 2, 5, 11, 0);
        x.ask(2, 4, 5, 11, 1);
        x.ask(3, 8, 5, 11, 1);
        x.giveBack(0);
        states("as it was", x, "2001");
        D.due("let", x.ask(4, 64, 5, 11, 0), 4);
        states("number 2 goes, not 1, nor 3 that waits", x, "20110");
        D.due("let", x.ask(5, 128, 5, 11, 0), 5);
        states("then number 1", x, "211100");
    }

    /** ".. at this HALF": one of a greater number at another half or day stays. */
    private static void greatestNumberAtThisHalf() {
        VisitHall x = hall(5, 1);
        x.ask(0, 1, 5, 41, 0);
        x.ask(1, 2, 5, 31, 0);
        x.ask(2, 4, 5, 51, 0);
        x.ask(3, 8, 4, 41, 0);
        x.ask(3, 8, 6, 41, 0);
        D.due("let", x.ask(4, 32, 5, 41, 0), 5);
        states("number 0 goes", x, "100000");
    }

    /** "at each of its HALVES, rising": who goes at an earlier half may spare one at a later half. */
    private static void rising() {
        VisitHall x = hall(5, 2);
        x.ask(0, 1, 5, 22, 0);
        x.ask(1, 2, 5, 12, 0);
        x.ask(2, 4, 5, 11, 0);
        x.ask(3, 8, 5, 31, 0);
        states("as it was", x, "0000");
        D.due("let", x.ask(4, 32, 5, 13, 0), 4);
        states("2 goes at half 1, 1 at half 2, 3 at half 3", x, "01110");
        VisitHall y = hall(5, 1);
        y.ask(0, 1, 5, 11, 0);
        y.ask(1, 2, 5, 22, 0);
        y.ask(2, 4, 5, 41, 0);
        D.due("let", y.ask(4, 32, 5, 14, 0), 3);
        states("each at its half", y, "1110");
    }

    /** "as long as there is no TABLE": with fewer tables told anew, several go at one half, and no more than needed. */
    private static void asLongAsThereIsNoTable() {
        for (int tables = 1; tables <= 6; tables++) {
            VisitHall x = hall(7, 6);
            for (int p = 0; p < 6; p++) {
                x.ask(p, 1 << p, 5, 11, 0);
            }
            x.rule(0, tables);
            D.due("let, with tables " + tables, x.ask(6, 1 << 7, 5, 11, 0), 6);
            states("with tables " + tables, x, "000000".substring(7 - tables) + "111111".substring(tables - 1) + "0");
            D.due("so many are let then", x.hall(5, 1, 0), tables);
        }
    }

    /** One that goes at a half has gone at all of its halves. */
    private static void oneThatFreesSeveralHalves() {
        VisitHall x = hall(5, 2);
        x.ask(0, 1, 5, 14, 0);
        x.ask(1, 2, 5, 14, 0);
        D.due("let", x.ask(4, 32, 5, 14, 0), 2);
        states("one goes, for all four halves", x, "010");
        VisitHall y = hall(5, 2);
        y.ask(0, 1, 5, 14, 0);
        y.ask(1, 2, 5, 11, 0);
        y.ask(2, 4, 5, 32, 0);
        D.due("let", y.ask(4, 32, 5, 14, 0), 3);
        states("one at half 1, one at half 3", y, "0110");
        D.due("the half between", y.hall(5, 2, 1), 0);
    }

    /** "that are no LAWYER's": one with a lawyer in it is none; a lawyer's of a greater number stays. */
    private static void noLawyers() {
        VisitHall x = hall(5, 3);
        x.ask(0, 1, 5, 11, 0);
        x.ask(1, 2 | 1 << 5, 5, 11, 0);
        x.ask(2, 1 << 6, 5, 11, 0);
        D.due("18: whether a lawyer's", x.visit(1, 6), 0);
        D.due("18: whether a lawyer's", x.visit(2, 6), 1);
        D.due("let", x.ask(4, 1 << 7, 5, 11, 0), 3);
        states("the one with a lawyer in it goes", x, "0100");
        x.rule(0, 2);
        x.giveBack(3);
        D.due("let again", x.ask(4, 1 << 7, 5, 11, 0), 4);
        states("the last that is no lawyer's goes", x, "11020");
    }

    /** "if at one of them there is none such, all stays, and it is REFUSED": the first half has just lawyers'. */
    private static void allStays() {
        VisitHall x = hall(4, 1);
        x.ask(0, 1 << 4, 5, 11, 0);
        x.ask(1, 2, 5, 22, 0);
        D.due("refused", x.ask(2, 1 << 5, 5, 13, 0), -19);
        states("all stays", x, "00");
        D.due("refused at that half alone", x.ask(2, 1 << 5, 5, 11, 0), -19);
        D.due("let behind it", x.ask(2, 1 << 5, 5, 22, 0), 2);
        states("then one goes", x, "010");
    }

    /** .. or the last half does: those marked at the earlier ones stay. */
    private static void allStaysAtTheLastHalf() {
        VisitHall x = hall(5, 2);
        x.ask(0, 1, 5, 11, 0);
        x.ask(1, 2, 5, 13, 0);
        x.ask(2, 1 << 5, 5, 41, 0);
        x.ask(3, 1 << 6, 5, 41, 0);
        D.due("refused", x.ask(4, 1 << 7, 5, 14, 0), -19);
        states("all stays", x, "0000");
        D.due("let at half 1", x.hall(5, 1, 0), 2);
        D.due("refused again", x.ask(4, 1 << 7, 5, 14, 0), -19);
        D.due("those marked are let for others", x.why(4, 16, 5, 11), 9);
        D.due("without the last half", x.ask(4, 1 << 7, 5, 13, 0), 4);
        states("one goes", x, "01000");
    }

    /** A sheet that has 0 tables for the day: none is enough, and all stays. */
    private static void noTablesAtAll() {
        VisitHall x = hall(4, 3);
        x.ask(0, 1, 5, 11, 0);
        x.ask(1, 2, 5, 11, 0);
        x.sheet(0, 6);
        D.due("refused", x.ask(2, 1 << 4, 5, 11, 0), -19);
        D.due("refused where nobody is", x.ask(2, 1 << 4, 5, 61, 0), -19);
        states("all stays", x, "00");
        x.mark(0, 5, 1);
        D.due("with one table", x.ask(2, 1 << 4, 5, 11, 0), 2);
        states("both go", x, "110");
    }

    /** It is for a lawyer's alone: one with a single other visitor takes nothing. */
    private static void othersDoNot() {
        VisitHall x = hall(4, 1);
        x.ask(0, 1, 5, 11, 0);
        D.due("a visitor", x.ask(1, 2, 5, 11, 0), -19);
        D.due("a visitor with two lawyers", x.ask(1, 2 | 3 << 4, 5, 11, 0), -19);
        states("all stays", x, "0");
        D.due("three lawyers", x.ask(1, 7 << 4, 5, 11, 0), 1);
        states("one goes", x, "10");
    }

    /** "(it WAITS again, its number stays)", though it had not asked to wait. */
    private static void itWaitsAgain() {
        VisitHall x = hall(4, 1);
        x.ask(0, 1, 5, 12, 0);
        x.ask(1, 1 << 4, 5, 11, 0);
        D.due("18: it waits", x.visit(0, 5), 1);
        D.due("27: one waits", x.count(4), 1);
        int[] due = {0, 1, 5, 1, 2};
        for (int what = 0; what < due.length; what++) {
            D.due("18: what " + what, x.visit(0, what), due[what]);
        }
        D.due("17: the lawyer's is given back", x.giveBack(1), 1);
        states("it is let", x, "02");
        D.due("21: it has its table again", x.hall(5, 1, 0), 1);
        D.due("16: it keeps others from it again", x.why(1, 2, 5, 11), 9);
        D.due("15: it can go again", x.ask(1, 1 << 4, 5, 11, 0), 2);
        states("it waits once more", x, "120");
    }

    /** Those that wait are not looked at for it: nobody was given back by hand. */
    private static void nobodyElseIsLookedAt() {
        VisitHall x = hall(4, 1);
        x.ask(0, 1, 5, 12, 0);
        x.ask(1, 2, 5, 21, 1);
        D.due("let", x.ask(2, 1 << 4, 5, 11, 0), 2);
        states("half 2 is free, but 1 waits on", x, "110");
        D.due("half 2 is free", x.hall(5, 2, 1), 1);
        x.rule(0, 1);
        states("0 waits for half 1, 1 is let when looked at", x, "100");
    }

    /** "0: it would be LET (also by giving back others)". */
    private static void whySaysSo() {
        VisitHall x = hall(5, 1);
        x.ask(0, 1, 5, 11, 0);
        x.ask(1, 1 << 5, 5, 21, 0);
        for (int i = 0; i < 3; i++) {
            D.due("by giving back", x.why(2, 1 << 6, 5, 11), 0);
            D.due("a lawyer's has the table", x.why(2, 1 << 6, 5, 21), 9);
            D.due("at the second half", x.why(2, 1 << 6, 5, 12), 9);
            D.due("others", x.why(2, 4, 5, 11), 9);
        }
        states("all stays", x, "00");
    }

    /** One that can't be let so is refused for 9, and may wait. */
    private static void mayWaitItself() {
        VisitHall x = hall(5, 1);
        x.ask(0, 1 << 5, 5, 11, 0);
        D.due("it must not", x.ask(1, 1 << 6, 5, 11, 0), -19);
        D.due("it waits", x.ask(1, 1 << 6, 5, 11, 1), 1);
        states("it waits", x, "01");
        D.due("17: given back", x.giveBack(0), 1);
        states("it is let", x, "20");
    }

    /** "whoever would not be REFUSED then is LET (a LAWYER's also as told)". */
    private static void fromTheWaitingList() {
        VisitHall x = hall(5, 1);
        x.ask(0, 1 << 5, 5, 12, 0);
        x.ask(1, 1 << 6, 5, 24, 1);
        x.ask(2, 4, 5, 31, 0);
        x.ask(3, 8, 5, 51, 0);
        states("as it was", x, "0100");
        D.due("17: given back", x.giveBack(0), 1);
        states("it is let, two go", x, "2011");
        D.due("let at half 5", x.hall(5, 5, 0), 1);
    }
}
