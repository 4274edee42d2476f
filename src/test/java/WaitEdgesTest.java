import java.util.function.ToIntFunction;

/** The edges of what the document says of those that wait, and of what is given back or stays. */
public final class WaitEdgesTest {
    private static final Due D = new Due();

    public static void main(String[] args) {
        reasonsThatMayWait();
        ifSoAsked();
        whatMakesThemBeLookedAt();
        whatDoesNot();
        refusedCallsDoNot();
        fromTodayOn();
        pastOnesGoOnWaiting();
        byNumbers();
        onceEach();
        theOneBehindTheOther();
        roomMadeOnTheWay();
        goneOnTheWay();
        whoIsStillRefused();
        letIsCounted();
        letStaysLet();
        giveBackOfEither();
        giveBackOfTheDay();
        givenBackStays();
        D.end();
    }

    private static void states(String what, VisitHall x, String due) {
        D.due(what, Due.states(x, due.length()), due);
    }

    /** "One that is REFUSED for 6, 7, 8 or 9 may WAIT": none of the reasons ahead of these. */
    private static void reasonsThatMayWait() {
        for (int wait = 0; wait < 2; wait++) {
            VisitHall x = Due.open("1 in 1", 5);
            x.visitor(3, 0, 0);
            x.list(1, 0, 1);
            x.list(4, 5, 1);
            x.rivals(0, 2, 1);
            x.rule(0, 1);
            x.ask(0, 1, 5, 1, 0);
            x.order(4, 4, 5);
            D.due("2, wait " + wait, x.ask(4, 1, 5, 1, wait), -12);
            D.due("3, wait " + wait, x.ask(4, 16, 5, 1, wait), -13);
            D.due("4, wait " + wait, x.ask(4, 32, 5, 1, wait), -14);
            D.due("5, wait " + wait, x.ask(3, 8, 5, 3, wait), -15);
            x.move(4);
            D.due("1, wait " + wait, x.ask(4, 16, 5, 1, wait), -11);
            D.due("6, wait " + wait, x.ask(0, 1, 5, 11, wait), wait == 1 ? 1 : -16);
            D.due("7, wait " + wait, x.ask(1, 1, 5, 1, wait), wait == 1 ? 2 : -17);
            D.due("8, wait " + wait, x.ask(2, 4, 5, 1, wait), wait == 1 ? 3 : -18);
            D.due("9, wait " + wait, x.ask(3, 8, 5, 1, wait), wait == 1 ? 4 : -19);
            D.due("27: that wait", x.count(4), wait * 4);
            states("wait " + wait, x, wait == 1 ? "01111" : "0");
            D.due("27: visits ever", x.count(2), 1 + wait * 4);
        }
    }

    /** ".. if so asked": with wait 1 one that can be let is let at once. */
    private static void ifSoAsked() {
        VisitHall x = Due.open("1 in 1", 1);
        D.due("wait 1", x.ask(0, 1, 5, 1, 1), 0);
        D.due("wait 0", x.ask(0, 1, 6, 1, 0), 1);
        states("both are let", x, "00");
        D.due("wait 2", x.ask(0, 1, 7, 1, 2), Due.BAD);
        D.due("wait -1", x.ask(0, 1, 7, 1, -1), Due.BAD);
    }

    /**
     * Visit 1 waits, and would be let as soon as it is looked at: the order on day 5 has freed its table. Visit 2 is
     * let, 3 waits behind it; prisoner 4 has nothing; prisoner 3 is moved.
     */
    private static VisitHall ready() {
        VisitHall x = Due.open("9 in 1", 5);
        x.move(3);
        x.rule(0, 1);
        x.ask(0, 1, 5, 1, 0);
        x.ask(1, 2, 5, 1, 1);
        x.ask(2, 4, 7, 1, 0);
        x.ask(1, 2, 7, 1, 1);
        x.order(0, 0, 5);
        return x;
    }

    private static void looked(String call, ToIntFunction<VisitHall> made, boolean looks) {
        VisitHall x = ready();
        D.due("before " + call, x.visit(1, 5), 1);
        made.applyAsInt(x);
        D.due("behind " + call, x.visit(1, 5), looks ? 0 : 1);
    }

    /** "Whenever a VISIT is GIVEN BACK by hand, .. those that WAIT .. are looked at": all that is named there. */
    private static void whatMakesThemBeLookedAt() {
        looked("giveBack of one that was let", x -> x.giveBack(2), true);
        looked("giveBack of one that waits", x -> x.giveBack(3), true);
        looked("move", x -> x.move(4), true);
        looked("lift", x -> x.lift(0, 0), true);
        looked("rivals", x -> x.rivals(8, 9, 1), true);
        looked("no rivals", x -> x.rivals(8, 9, 0), true);
        looked("more tables", x -> x.rule(0, 2), true);
        looked("tables as they were", x -> x.rule(0, 1), true);
        looked("a right", x -> Due.right(x, 0, "8 in 1"), true);
        looked("a right as it was", x -> Due.right(x, 0, "9 in 1"), true);
        looked("a right of another class", x -> Due.right(x, 3, "0 in 1"), true);
    }

    private static void whatDoesNot() {
        looked("prisoner", x -> x.prisoner(0, 0), false);
        looked("visitor", x -> x.visitor(0, 0, 0), false);
        looked("isOf", x -> x.isOf(0, 0), false);
        looked("list", x -> x.list(1, 0, 1), false);
        looked("order", x -> x.order(2, 2, 7), false);
        looked("order anew", x -> x.order(0, 0, 9), false);
        looked("told", x -> x.told(1, 4), false);
        looked("feed", x -> x.feed(0, 0, 0), false);
        looked("trim", x -> x.trim(0), false);
        looked("of", x -> x.of(0, 0), false);
        looked("ask that is let", x -> x.ask(4, 16, 6, 1, 1), false);
        looked("ask that waits", x -> x.ask(4, 16, 7, 1, 1), false);
        looked("why", x -> x.why(4, 16, 5, 1), false);
        looked("visit", x -> x.visit(1, 5), false);
        looked("one in", x -> x.rule(1, 9), false);
        looked("seed", x -> x.rule(2, 9), false);
        looked("days", x -> x.days(1), false);
        looked("days up to its own", x -> x.days(5), false);
        looked("hall", x -> x.hall(5, 0, 1), false);
        looked("comes", x -> x.comes(5, 1), false);
        looked("sheet", x -> x.sheet(0, 0), false);
        looked("sheet and mark", x -> x.sheet(0, 6) + x.mark(0, 5, 6), false);
        looked("sheet and copy", x -> x.sheet(0, 6) + x.mark(0, 4, 6) + x.copy(0, 4, 0, 5, 1), false);
        looked("sheet and lose", x -> x.sheet(0, 6) + x.lose(0), false);
        looked("count", x -> x.count(4), false);
    }

    private static void refusedCallsDoNot() {
        looked("giveBack, BAD", x -> x.giveBack(4), false);
        looked("giveBack, NO", x -> x.giveBack(0), false);
        looked("move, BAD", x -> x.move(5), false);
        looked("move, NO", x -> x.move(3), false);
        looked("lift, BAD", x -> x.lift(0, 5), false);
        looked("lift, NO", x -> x.lift(0, 1), false);
        looked("rivals, BAD", x -> x.rivals(9, 9, 1), false);
        looked("rule, BAD", x -> x.rule(0, 7), false);
        looked("right, BAD", x -> Due.right(x, 4, "9 in 1"), false);
        looked("right with a fault", x -> Due.right(x, 0, "9 in 1 x"), false);
        looked("right of nothing", x -> x.right(0), false);
        looked("ask that is refused", x -> x.ask(0, 1, 5, 1, 1), false);
        looked("ask, BAD", x -> x.ask(9, 1, 5, 1, 1), false);
    }

    /** "those that WAIT, from TODAY on": today's, too. */
    private static void fromTodayOn() {
        for (int today = 3; today <= 7; today++) {
            VisitHall x = Due.open("0 in 1", 1);
            for (int day = 4; day <= 6; day++) {
                x.ask(0, 1, day, 1, 1);
            }
            x.days(today);
            int ahead = Math.min(3, 7 - today);
            D.due("13: let from day " + today + " on", Due.right(x, 0, "1 in 1"), ahead);
            states("from day " + today + " on", x, "111".substring(ahead) + "000".substring(3 - ahead));
        }
    }

    /** "(Those of DAYS that are past go on waiting for nothing.)" */
    private static void pastOnesGoOnWaiting() {
        VisitHall x = Due.open("0 in 1", 2);
        x.ask(0, 1, 4, 1, 1);
        x.days(5);
        Due.right(x, 0, "9 in 1");
        x.rule(0, 6);
        x.rivals(0, 1, 0);
        x.move(1);
        states("it waits", x, "1");
        D.due("27: it counts as waiting", x.count(4), 1);
        D.due("17: it can't be given back", x.giveBack(0), Due.NO);
        D.due("17: it can't be given back", x.visit(0, 5), 1);
    }

    /** ".. by numbers": the least number is let, whatever the day it is asked for, and whoever asked. */
    private static void byNumbers() {
        VisitHall x = Due.open("9 in 1", 4);
        x.rule(0, 1);
        for (int p = 0; p < 4; p++) {
            x.ask(p, 1 << p, 5, 1, 1);
        }
        for (int given = 0; given < 3; given++) {
            D.due("17: one is let behind " + given, x.giveBack(given), 1);
            states("behind " + given, x, "2222".substring(3 - given) + "0" + "1111".substring(given + 2));
        }
        VisitHall y = Due.open("0 in 9", 1);
        y.ask(0, 1, 8, 1, 1);
        y.ask(0, 1, 3, 1, 1);
        y.ask(0, 1, 5, 1, 1);
        Due.right(y, 0, "1 in 9");
        states("the least number, not the earliest day", y, "011");
    }

    /** ".. are looked at once each": one that was passed is not looked at again, though there is room then. */
    private static void onceEach() {
        VisitHall x = Due.open("9 in 1 long 4", 5);
        x.visitor(2, 0, 0);
        x.visitor(2, 0, 0);
        x.rule(0, 1);
        x.ask(0, 1 << 5, 5, 11, 0);
        x.ask(1, 2, 5, 31, 1);
        x.ask(2, 4, 5, 42, 0);
        x.ask(3, 8, 5, 51, 1);
        x.ask(4, 1 << 6, 5, 14, 1);
        states("as it was", x, "00011");
        D.due("17: the lawyer's is let", x.giveBack(0), 1);
        states("2 went for it, which made room for 3: not looked at again", x, "21110");
        D.due("half 5 is free", x.hall(5, 5, 1), 1);
        D.due("19: the next time", x.rule(0, 1), 1);
        states("3 is let then", x, "21100");
    }

    /** ".. the one behind the other": each finds what those ahead of it have left. */
    private static void theOneBehindTheOther() {
        VisitHall x = Due.open("0 in 3", 3);
        x.list(1, 0, 1);
        x.rivals(1, 2, 1);
        x.rule(0, 2);
        x.ask(0, 1, 5, 1, 1);
        x.ask(0, 1, 6, 1, 1);
        x.ask(1, 1, 5, 1, 1);
        x.ask(1, 2, 5, 1, 1);
        x.ask(2, 4, 5, 1, 1);
        D.due("13: two are let", Due.right(x, 0, "1 in 3"), 2);
        states("1 for 6, 2 for 7, 4 for 8", x, "01101");
        D.due("17: 3 is given back", x.giveBack(3), 1);
        states("4 is let", x, "01120");
    }

    /** A lawyer's that is let on the way makes those go that come behind it, and may make room for others there. */
    private static void roomMadeOnTheWay() {
        VisitHall x = Due.open("9 in 1 long 4", 5);
        x.visitor(2, 0, 0);
        x.visitor(2, 0, 0);
        x.rule(0, 1);
        x.ask(0, 1 << 5, 5, 11, 0);
        x.ask(1, 1 << 6, 5, 12, 1);
        x.ask(2, 4, 5, 22, 0);
        x.ask(3, 8, 5, 31, 1);
        states("as it was", x, "0101");
        D.due("17: two are let", x.giveBack(0), 2);
        states("2 goes for 1, which makes room for 3", x, "2010");
    }

    /**
     * The document does not say whether one that goes on the way, and has its turn still ahead, is one of "those that
     * WAIT": it waits when its turn comes, so it is looked at.
     */
    private static void goneOnTheWay() {
        VisitHall x = new VisitHall();
        Due.right(x, 0, "9 in 1");
        int[] families = {0, 1, 2, 2, 3};
        for (int p = 0; p < families.length; p++) {
            x.prisoner(0, families[p]);
            x.visitor(p == 1 || p == 4 ? 0 : 2, 0, 0);
            x.list(p, p, 1);
        }
        x.rule(0, 2);
        x.rivals(1, 2, 1);
        x.ask(0, 1, 5, 21, 0);
        x.ask(1, 2, 5, 12, 0);
        x.ask(2, 4, 5, 11, 1);
        x.ask(3, 8, 5, 21, 1);
        x.ask(4, 16, 5, 11, 0);
        states("as it was", x, "00110");
        D.due("8: rivals no more", x.rivals(1, 2, 0), 1);
        states("4 goes for 2, 1 for 3, and 4 is let again", x, "01000");
    }

    /** Whoever would be refused for any of the nine goes on waiting. */
    private static void whoIsStillRefused() {
        VisitHall x = Due.open("0 in 1", 2);
        x.visitor(1, 0, 0);
        x.visitor(3, 0, 0);
        x.list(0, 2, 1);
        x.list(0, 3, 1);
        x.ask(0, 1, 5, 2, 1);
        x.ask(0, 12, 6, 1, 1);
        x.list(0, 0, 0);
        D.due("13: 2 for the first", Due.right(x, 0, "9 in 1 not 6"), 0);
        states("2, and 5 for the weekday", x, "11");
        x.list(0, 0, 1);
        D.due("13: 5 for its length", Due.right(x, 0, "9 in 1 long 1 not 6"), 0);
        x.order(0, 3, 6);
        D.due("13: 3 for the second", Due.right(x, 0, "9 in 1 long 1"), 0);
        D.due("7: lifted", x.lift(0, 3), 6);
        states("the second is let", x, "10");
        D.due("9: moved", x.move(0), 1);
        D.due("13: 1 for the first", Due.right(x, 0, "9 in 1"), 0);
        states("it waits", x, "12");
    }

    /** "how many of those that WAIT are LET now": none, one, all; also one that goes again for a lawyer's. */
    private static void letIsCounted() {
        VisitHall x = Due.open("0 in 1", 3);
        D.due("13: nobody waits", Due.right(x, 0, "0 in 1"), 0);
        for (int p = 0; p < 3; p++) {
            x.ask(p, 1 << p, 5, 1, 1);
        }
        D.due("13: none", Due.right(x, 0, "0 in 2"), 0);
        D.due("13: all", Due.right(x, 0, "1 in 1"), 3);
        D.due("17: none waits", x.giveBack(0), 0);
        D.due("13: none waits", Due.right(x, 0, "9 in 1"), 0);
        VisitHall y = Due.open("9 in 1", 3);
        y.visitor(2, 0, 0);
        y.visitor(2, 0, 0);
        y.rule(0, 1);
        y.ask(0, 1 << 3, 5, 1, 0);
        y.ask(1, 2, 5, 1, 1);
        y.ask(2, 1 << 4, 5, 1, 1);
        D.due("17: one is let, and goes for the other", y.giveBack(0), 2);
        states("it waits again", y, "210");
    }

    /** "What was LET stays LET, whatever is told anew". */
    private static void letStaysLet() {
        VisitHall x = Due.open("9 in 1 long 4", 4);
        x.list(0, 1, 1);
        x.ask(0, 3, 5, 4, 0);
        x.ask(2, 4, 5, 1, 0);
        x.ask(3, 8, 5, 1, 0);
        x.list(0, 0, 0);
        states("a list", x, "000");
        x.rivals(0, 2, 1);
        x.rivals(2, 3, 1);
        states("rivals", x, "000");
        x.rule(0, 1);
        states("tables", x, "000");
        x.sheet(0, 60);
        states("a sheet", x, "000");
        Due.right(x, 0, "0 in 60 long 1 not 5");
        states("a right", x, "000");
        x.rule(1, 1);
        x.rule(2, 77);
        x.days(5);
        states("days", x, "000");
        x.order(0, 2, 0);
        x.order(1, 1, 0);
        states("orders that bar others", x, "000");
        x.move(1);
        states("another who is moved", x, "000");
        D.due("21: all at one half", x.hall(5, 0, 0), 3);
    }

    /** "A VISIT that is LET (or WAITS) is GIVEN BACK", "NO: it is neither". */
    private static void giveBackOfEither() {
        VisitHall x = Due.open("1 in 1", 1);
        x.ask(0, 1, 5, 1, 0);
        x.ask(0, 1, 5, 11, 1);
        x.ask(0, 1, 5, 21, 1);
        D.due("17: one that waits", x.giveBack(1), 0);
        states("one that waits", x, "021");
        D.due("17: again", x.giveBack(1), Due.NO);
        D.due("17: one that is let", x.giveBack(0), 1);
        states("the next is let, not the one given back", x, "220");
        D.due("17: again", x.giveBack(0), Due.NO);
        D.due("17: no such visit", x.giveBack(3), Due.BAD);
        D.due("17: no such visit", x.giveBack(-1), Due.BAD);
        D.due("17: the last", x.giveBack(2), 0);
        states("all", x, "222");
    }

    /** "NO: .. or its DAY is past": yesterday's, today's, tomorrow's. */
    private static void giveBackOfTheDay() {
        VisitHall x = Due.open("1 in 1", 1);
        for (int day = 4; day <= 6; day++) {
            x.ask(0, 1, day, 1, 0);
            x.ask(0, 1, day, 11, 1);
        }
        x.days(5);
        D.due("17: yesterday's", x.giveBack(0), Due.NO);
        D.due("17: yesterday's that waits", x.giveBack(1), Due.NO);
        states("they stay", x, "010101");
        D.due("17: today's that waits", x.giveBack(3), 0);
        D.due("17: today's", x.giveBack(2), 0);
        D.due("17: tomorrow's", x.giveBack(4), 1);
        states("which lets another", x, "012220");
    }

    /** One that is given back is never looked at again; it may be asked for anew, as another. */
    private static void givenBackStays() {
        VisitHall x = Due.open("1 in 1", 1);
        x.ask(0, 1, 5, 1, 0);
        x.giveBack(0);
        x.rule(0, 6);
        x.rivals(0, 1, 1);
        Due.right(x, 0, "9 in 1");
        states("it stays given back", x, "2");
        D.due("15: asked for anew", x.ask(0, 1, 5, 1, 0), 1);
        states("as another", x, "20");
    }
}
