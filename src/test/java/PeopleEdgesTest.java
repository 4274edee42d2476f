/**
 * The edges of the document's part 1 and of promises 1 to 10, sentence by sentence. What is refused there stands in
 * RefusedTest, too, with all that it must not change.
 */
public final class PeopleEdgesTest {
    private static final Due D = new Due();

    public static void main(String[] args) {
        lastCall();
        everyDay();
        everyHalf();
        weekdays();
        families();
        rivalsBothWays();
        prisonerNumbers();
        hereTillMoved();
        visitorNumbers();
        allAreVisitors();
        ways();
        listsAtFirst();
        listsOfEach();
        listsAndLetVisits();
        orderFromADay();
        orderTillLifted();
        orderTakesTheDayAnew();
        orderGivesBackFromItsDay();
        orderGivesBackFromToday();
        orderGivesBackWhatItBars();
        orderedDoNotWait();
        ordersOfAll();
        liftTellsItsDay();
        moveGivesBackFromToday();
        moveOnTheFirstDay();
        moveOfOneWithoutVisits();
        movedStillTold();
        toldVisitsFromToday();
        D.end();
    }

    /** "An object is used for at most 512 calls after it has been made". */
    private static void lastCall() {
        VisitHall x = new VisitHall();
        x.prisoner(2, 7);
        for (int call = 2; call < 512; call++) {
            x.rule(2, call);
        }
        D.due("the 512th call", x.told(0, 1), 7);
    }

    /** "DAYS 0 .. 400", "TODAY is 0 at first". */
    private static void everyDay() {
        VisitHall x = Due.open("9 in 1", 1);
        D.due("today at first", x.count(6), 0);
        int[] days = {-1, 0, 1, 399, 400, 401};
        for (int day : days) {
            boolean is = day >= 0 && day <= 400;
            D.due("hall of day " + day, x.hall(day, 0, 0), is ? 0 : Due.BAD);
            D.due("free on day " + day, x.hall(day, 0, 1), is ? 3 : Due.BAD);
            D.due("comes on day " + day, x.comes(day, 0), is ? 0 : Due.BAD);
            D.due("why of day " + day, x.why(0, 1, day, 1), is ? 0 : Due.BAD);
            D.due("order of day " + day, x.order(0, 0, day), is ? 0 : Due.BAD);
            D.due("lift of day " + day, x.lift(0, 0), is ? day : Due.NO);
        }
        D.due("ask on day 0", x.ask(0, 1, 0, 1, 0), 0);
        D.due("ask on day 400", x.ask(0, 1, 400, 1, 0), 1);
        D.due("ask on day 401", x.ask(0, 1, 401, 1, 0), Due.BAD);
        D.due("hall of day 400", x.hall(400, 0, 0), 1);
        D.due("hall of day 399", x.hall(399, 0, 0), 0);
        D.due("comes on day 400", x.comes(400, 0), 1);
    }

    /** "HALVES 0 .. 11 are the half hours of a DAY". */
    private static void everyHalf() {
        VisitHall x = Due.open("9 in 1", 2);
        x.ask(0, 1, 3, 1, 0);
        x.ask(1, 2, 3, 111, 0);
        for (int half = -2; half <= 13; half++) {
            int let = half == 0 || half == 11 ? 1 : 0;
            D.due("let at half " + half, x.hall(3, half, 0), half < 0 || half > 11 ? Due.BAD : let);
            D.due("free at half " + half, x.hall(3, half, 1), half < 0 || half > 11 ? Due.BAD : 3 - let);
        }
    }

    /** "WEEKDAY is DAY % 7": a right that names one of them, asked for on all days. */
    private static void weekdays() {
        for (int d = 0; d < 7; d++) {
            VisitHall x = Due.open("9 in 1 not " + d, 1);
            for (int day = 0; day <= 400; day++) {
                D.due("day " + day + " is weekday " + day % 7 + ", not " + d, x.why(0, 1, day, 1), day % 7 == d ? 5 : 0);
            }
        }
    }

    /** "FAMILIES 0 .. 9". */
    private static void families() {
        VisitHall x = new VisitHall();
        int prisoners = 0;
        int visitors = 0;
        for (int f = -2; f <= 11; f++) {
            boolean is = f >= 0 && f <= 9;
            D.due("prisoner of family " + f, x.prisoner(0, f), is ? prisoners++ : Due.BAD);
            D.due("visitor of family " + f, x.visitor(0, f, 0), is ? visitors++ : Due.BAD);
        }
        for (int p = 0; p < 10; p++) {
            D.due("family of prisoner " + p, x.told(p, 1), p);
        }
    }

    /** "two may be RIVALS (both ways; none at first)", "BAD (a family is not its own RIVAL)". */
    private static void rivalsBothWays() {
        VisitHall x = new VisitHall();
        D.due("pairs at first", x.count(8), 0);
        for (int f = 0; f < 10; f++) {
            for (int g = 0; g < f; g++) {
                D.due("rivals at first " + f + ", " + g, x.rivals(f, g, 0), 0);
            }
        }
        D.due("pairs still", x.count(8), 0);
        int pairs = 0;
        for (int f = 0; f < 10; f++) {
            for (int g = 0; g < 10; g++) {
                int was = f == g ? Due.BAD : g < f ? 1 : 0;
                D.due("rivals(" + f + ", " + g + ", 1)", x.rivals(f, g, 1), was);
                pairs += f < g ? 1 : 0;
                D.due("pairs behind " + f + ", " + g, x.count(8), pairs);
            }
        }
        D.due("all pairs", x.count(8), 45);
        D.due("one pair less", x.rivals(9, 0, 0), 1);
        D.due("the other way", x.rivals(0, 9, 0), 0);
        D.due("its neighbours stay", x.rivals(9, 1, 1), 1);
        D.due("its neighbours stay", x.rivals(8, 0, 1), 1);
        D.due("pairs", x.count(8), 44);
    }

    /** "PRISONERS, 10 at most, numbered from 0: a CLASS 0 .. 3, a FAMILY". */
    private static void prisonerNumbers() {
        VisitHall x = new VisitHall();
        int[] classes = {0, 3, -1, 4, 1, 2, 0, 1, 2, 3, 3, 0};
        int number = 0;
        for (int c : classes) {
            D.due("prisoner of class " + c, x.prisoner(c, 9), c >= 0 && c <= 3 ? number++ : Due.BAD);
        }
        D.due("ten are here", x.count(0), 10);
        D.due("an eleventh", x.prisoner(0, 0), Due.FULL);
        D.due("an eleventh of a wrong class", x.prisoner(4, 0), Due.BAD);
        D.due("an eleventh of a wrong family", x.prisoner(0, 10), Due.BAD);
        D.due("the first's class", x.told(0, 0), 0);
        D.due("the second's class", x.told(1, 0), 3);
        D.due("the tenth's class", x.told(9, 0), 0);
        D.due("none of number 10", x.told(10, 0), Due.BAD);
        D.due("ten are here still", x.count(0), 10);
    }

    /** "they are HERE, till they are MOVED away"; a number is not given again. */
    private static void hereTillMoved() {
        VisitHall x = new VisitHall();
        for (int p = 0; p < 10; p++) {
            x.prisoner(0, 0);
        }
        for (int p = 9; p >= 0; p--) {
            D.due("here " + p, x.told(p, 2), 1);
            D.due("move " + p, x.move(p), 0);
            D.due("here no more " + p, x.told(p, 2), 0);
            D.due("still here", x.count(0), p);
            D.due("move again " + p, x.move(p), Due.NO);
            D.due("the numbers are used", x.prisoner(0, 0), Due.FULL);
        }
    }

    /** "VISITORS, 14 at most, numbered from 0". */
    private static void visitorNumbers() {
        VisitHall x = new VisitHall();
        for (int v = 0; v < 14; v++) {
            D.due("none of number " + v + " yet", x.isOf(v, 0), Due.BAD);
            D.due("visitor " + v, x.visitor(v % 4, v % 10, v), v);
            D.due("how many", x.count(1), v + 1);
        }
        D.due("a fifteenth", x.visitor(0, 0, 0), Due.FULL);
        D.due("a fifteenth of a wrong kind", x.visitor(-1, 0, 0), Due.BAD);
        D.due("a fifteenth of a wrong family", x.visitor(0, 10, 0), Due.BAD);
        D.due("a fifteenth of a wrong way", x.visitor(0, 0, 21), Due.BAD);
        D.due("fourteen", x.count(1), 14);
        D.due("none of number 14", x.isOf(14, 0), Due.BAD);
    }

    /** "a KIND: 0 VISITOR, 1 KIN, 2 LAWYER, 3 CHILD (all are VISITORS; CHILDREN are KIN, too)": in all places. */
    private static void allAreVisitors() {
        for (int turn = 0; turn < 4; turn++) {
            VisitHall x = new VisitHall();
            for (int v = 0; v < 14; v++) {
                x.visitor((v + turn) % 4, 0, 0);
            }
            for (int v = 0; v < 14; v++) {
                int kind = (v + turn) % 4;
                D.due("a visitor", x.isOf(v, 0), 1);
                D.due("kin, of kind " + kind, x.isOf(v, 1), kind == 1 || kind == 3 ? 1 : 0);
                D.due("a lawyer, of kind " + kind, x.isOf(v, 2), kind == 2 ? 1 : 0);
                D.due("a child, of kind " + kind, x.isOf(v, 3), kind == 3 ? 1 : 0);
                D.due("kind 4", x.isOf(v, 4), Due.BAD);
                D.due("kind -1", x.isOf(v, -1), Due.BAD);
            }
        }
    }

    /** "a WAY 0 .. 20". */
    private static void ways() {
        VisitHall x = new VisitHall();
        D.due("way -1", x.visitor(0, 0, -1), Due.BAD);
        D.due("way 0", x.visitor(0, 0, 0), 0);
        D.due("way 20", x.visitor(0, 0, 20), 1);
        D.due("way 21", x.visitor(0, 0, 21), Due.BAD);
        x.prisoner(0, 0);
        x.list(0, 0, 1);
        x.list(0, 1, 1);
        Due.right(x, 0, "0 in 1 far 20 and 1");
        D.due("way 0 is not 20 or more", x.why(0, 1, 0, 1), 6);
        D.due("way 20 is", x.why(0, 2, 0, 1), 0);
        Due.right(x, 0, "0 in 1 far 0 and 1");
        D.due("way 0 is 0 or more", x.why(0, 1, 0, 1), 0);
    }

    /** "Each PRISONER has a LIST of VISITORS (none at first)". */
    private static void listsAtFirst() {
        VisitHall x = new VisitHall();
        Due.right(x, 0, "9 in 1");
        x.visitor(0, 0, 0);
        x.prisoner(0, 0);
        x.visitor(0, 0, 0);
        D.due("bits at first", x.told(0, 3), 0);
        D.due("one who was there", x.list(0, 0, 0), 0);
        D.due("one who came later", x.list(0, 1, 0), 0);
        D.due("none may come", x.why(0, 1, 0, 1), 2);
        x.list(0, 0, 1);
        x.prisoner(0, 0);
        D.due("another's is of its own", x.told(1, 3), 0);
    }

    /** "A VISITOR is on a PRISONER's LIST (on 1) or not (0): what it was": all bits of all lists. */
    private static void listsOfEach() {
        VisitHall x = new VisitHall();
        for (int i = 0; i < 14; i++) {
            x.visitor(0, 0, 0);
            x.prisoner(0, 0);
        }
        for (int v = 0; v < 14; v++) {
            D.due("put on " + v, x.list(9, v, 1), 0);
            D.due("bits", x.told(9, 3), (2 << v) - 1);
            D.due("put on again " + v, x.list(9, v, 1), 1);
        }
        D.due("another's", x.told(8, 3), 0);
        for (int v = 0; v < 14; v++) {
            D.due("taken off " + v, x.list(9, v, 0), 1);
            D.due("bits", x.told(9, 3), 16383 & -(2 << v));
            D.due("taken off again " + v, x.list(9, v, 0), 0);
        }
    }

    /** "(VISITS that are LET stay.)": behind a list, also those of many visitors. */
    private static void listsAndLetVisits() {
        VisitHall x = Due.open("9 in 1", 3);
        x.list(0, 1, 1);
        x.ask(0, 3, 0, 1, 0);
        x.ask(0, 1, 1, 1, 0);
        x.list(0, 0, 0);
        D.due("what was let stays", Due.states(x, 2), "00");
        D.due("who asks now is refused", x.ask(0, 1, 2, 1, 1), -12);
        x.rule(0, 3);
        D.due("what was let stays when those who wait are looked at", Due.states(x, 2), "00");
    }

    /** "An ORDER bars a VISITOR from a PRISONER from a DAY on". */
    private static void orderFromADay() {
        for (int from : new int[] {0, 1, 7, 399, 400}) {
            VisitHall x = Due.open("9 in 1", 2);
            x.list(0, 1, 1);
            x.list(1, 0, 1);
            x.order(0, 0, from);
            for (int day : new int[] {0, 1, 6, 7, 8, 398, 399, 400}) {
                String on = "order of " + from + ", on day " + day;
                D.due(on, x.why(0, 1, day, 1), day >= from ? 3 : 0);
                D.due(on + ", with another", x.why(0, 3, day, 1), day >= from ? 3 : 0);
                D.due(on + ", another visitor", x.why(0, 2, day, 1), 0);
                D.due(on + ", another prisoner", x.why(1, 1, day, 1), 0);
            }
        }
    }

    /** "(till it is lifted)"; "That ORDER is lifted: from which DAY on it barred", "NO: there is none". */
    private static void orderTillLifted() {
        VisitHall x = Due.open("9 in 1", 2);
        x.list(0, 1, 1);
        D.due("none yet", x.lift(0, 0), Due.NO);
        x.order(0, 0, 0);
        x.order(0, 1, 0);
        x.order(1, 0, 5);
        x.days(60);
        D.due("bars on, days later", x.why(0, 1, 60, 1), 3);
        D.due("lift", x.lift(0, 0), 0);
        D.due("may come", x.why(0, 1, 60, 1), 0);
        D.due("the other's bars on", x.why(0, 2, 60, 1), 3);
        D.due("no more", x.lift(0, 0), Due.NO);
        D.due("orders left", x.count(5), 2);
        D.due("lift of another prisoner's", x.lift(1, 0), 5);
        D.due("lift of another visitor's", x.lift(0, 1), 0);
        D.due("no orders left", x.count(5), 0);
    }

    /** "An ORDER that there was is of this DAY then": earlier, later, and the same. */
    private static void orderTakesTheDayAnew() {
        VisitHall x = Due.open("9 in 1", 1);
        int[] days = {10, 5, 20, 20, 400, 0};
        for (int day : days) {
            x.order(0, 0, day);
            D.due("one order", x.count(5), 1);
            D.due("a day ahead of " + day, x.why(0, 1, Math.max(0, day - 1), 1), day == 0 ? 3 : 0);
            D.due("day " + day, x.why(0, 1, day, 1), 3);
        }
        D.due("the last one counts", x.lift(0, 0), 0);
        D.due("and was the only one", x.lift(0, 0), Due.NO);
    }

    /** "an ORDER gives back all VISITS from its DAY .. on that it bars", "how many VISITS are GIVEN BACK by it". */
    private static void orderGivesBackFromItsDay() {
        VisitHall x = Due.open("9 in 1", 1);
        for (int day = 3; day <= 7; day++) {
            x.ask(0, 1, day, 1, 0);
        }
        D.due("from day 8 on none", x.order(0, 0, 8), 0);
        D.due("none", Due.states(x, 5), "00000");
        D.due("from day 7 on", x.order(0, 0, 7), 1);
        D.due("the last", Due.states(x, 5), "00002");
        D.due("from day 5 on", x.order(0, 0, 5), 2);
        D.due("the day itself, too", Due.states(x, 5), "00222");
        D.due("later again: none comes back", x.order(0, 0, 9), 0);
        D.due("none comes back", Due.states(x, 5), "00222");
        D.due("from day 0 on", x.order(0, 0, 0), 2);
        D.due("all", Due.states(x, 5), "22222");
    }

    /** ".. and from TODAY, on": what is past stays LET. */
    private static void orderGivesBackFromToday() {
        VisitHall x = Due.open("9 in 1", 1);
        for (int day = 3; day <= 7; day++) {
            x.ask(0, 1, day, 1, 0);
        }
        x.days(5);
        D.due("of day 0, on day 5", x.order(0, 0, 0), 3);
        D.due("today's, too", Due.states(x, 5), "00222");
        D.due("let ones", x.count(3), 2);
    }

    /** ".. that it bars": those of this prisoner with this visitor, alone or with others, lawyers' too. */
    private static void orderGivesBackWhatItBars() {
        VisitHall x = Due.open("9 in 1", 3);
        x.visitor(2, 0, 0);
        x.list(0, 1, 1);
        x.list(1, 0, 1);
        x.ask(0, 1, 3, 1, 0);
        x.ask(0, 3, 3, 11, 0);
        x.ask(0, 11, 3, 21, 0);
        x.ask(0, 2, 3, 31, 0);
        x.ask(1, 1, 3, 31, 0);
        x.ask(0, 8, 3, 41, 0);
        x.ask(0, 9, 3, 51, 0);
        D.due("with visitor 0", x.order(0, 0, 0), 4);
        D.due("with visitor 0", Due.states(x, 7), "2220002");
        D.due("a lawyer's", x.order(0, 3, 0), 1);
        D.due("a lawyer's", Due.states(x, 7), "2220022");
    }

    /** "(they do not WAIT)": nor are they let when the order is lifted; and none that waits is given back. */
    private static void orderedDoNotWait() {
        VisitHall x = Due.open("1 in 1", 1);
        x.ask(0, 1, 3, 1, 1);
        x.ask(0, 1, 3, 11, 1);
        D.due("one is let, one waits", Due.states(x, 2), "01");
        D.due("one is given back", x.order(0, 0, 3), 1);
        D.due("it does not wait, the other does", Due.states(x, 2), "21");
        D.due("one waits", x.count(4), 1);
        D.due("lifted", x.lift(0, 0), 3);
        D.due("who waited is let", Due.states(x, 2), "20");
    }

    /** An order for every visitor of every prisoner, each of a day of its own. */
    private static void ordersOfAll() {
        VisitHall x = new VisitHall();
        for (int p = 0; p < 10; p++) {
            x.prisoner(0, 0);
        }
        for (int v = 0; v < 14; v++) {
            x.visitor(0, 0, 0);
        }
        for (int p = 0; p < 10; p++) {
            for (int v = 0; v < 14; v++) {
                x.order(p, v, 20 * p + v);
            }
        }
        D.due("orders", x.count(5), 140);
        for (int p = 0; p < 10; p++) {
            for (int v = 0; v < 14; v++) {
                D.due("lift " + p + ", " + v, x.lift(p, v), 20 * p + v);
            }
        }
        D.due("no orders", x.count(5), 0);
    }

    /** "from which DAY on it barred": the first and the last day there is; also of one who is moved. */
    private static void liftTellsItsDay() {
        VisitHall x = Due.open("9 in 1", 1);
        x.order(0, 0, 400);
        D.due("day 400", x.lift(0, 0), 400);
        D.due("day 400 no more", x.lift(0, 0), Due.NO);
        x.move(0);
        D.due("an order for one who is moved", x.order(0, 0, 0), 0);
        D.due("it counts", x.count(5), 1);
        D.due("day 0", x.lift(0, 0), 0);
    }

    /** "MOVED ones give back all from TODAY on", "how many VISITS are GIVEN BACK". */
    private static void moveGivesBackFromToday() {
        VisitHall x = Due.open("9 in 1", 2);
        x.visitor(2, 0, 0);
        for (int day = 4; day <= 6; day++) {
            x.ask(0, 1, day, 1, 0);
            x.ask(0, 4, day, 11, 0);
            x.ask(1, 2, day, 1, 0);
        }
        x.giveBack(6);
        x.days(5);
        D.due("today's and later ones, lawyers' too", x.move(0), 3);
        D.due("past ones and others' stay", Due.states(x, 9), "000220220");
        D.due("let ones", x.count(3), 5);
        D.due("none ahead", x.told(0, 4), 0);
    }

    /** TODAY may be day 0, and a visit may be of the last day. */
    private static void moveOnTheFirstDay() {
        VisitHall x = Due.open("9 in 1", 1);
        x.ask(0, 1, 0, 1, 0);
        x.ask(0, 1, 400, 1, 0);
        D.due("both", x.move(0), 2);
        D.due("both", Due.states(x, 2), "22");
    }

    private static void moveOfOneWithoutVisits() {
        VisitHall x = Due.open("9 in 1", 2);
        D.due("no visits", x.move(1), 0);
        D.due("they are not here", x.move(1), Due.NO);
        D.due("the other is", x.told(0, 2), 1);
    }

    /** One who is moved is still told of, listed and barred; but has no visits. */
    private static void movedStillTold() {
        VisitHall x = Due.open("9 in 1", 1);
        x.visitor(2, 0, 0);
        x.move(0);
        D.due("class", x.told(0, 0), 0);
        D.due("family", x.told(0, 1), 0);
        D.due("here", x.told(0, 2), 0);
        D.due("list", x.told(0, 3), 1);
        D.due("no visits", x.told(0, 4), 0);
        D.due("list", x.list(0, 1, 1), 0);
        D.due("why", x.why(0, 1, 0, 1), 1);
        D.due("a lawyer's", x.ask(0, 2, 0, 1, 1), -11);
    }

    /** "4 VISITS LET, from TODAY on": not those that wait, are given back, are past, or are another's. */
    private static void toldVisitsFromToday() {
        VisitHall x = Due.open("1 in 1", 2);
        for (int day = 4; day <= 6; day++) {
            x.ask(0, 1, day, 1, 0);
            x.ask(0, 1, day, 11, 1);
        }
        x.ask(1, 2, 5, 1, 0);
        int[] ahead = {3, 3, 3, 3, 3, 2, 1, 0};
        for (int today = 0; today < 8; today++) {
            D.due("let, from day " + today + " on", x.told(0, 4), ahead[today]);
            x.days(1);
        }
    }
}
