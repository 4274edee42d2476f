import java.util.function.ToIntFunction;

/**
 * "A call that is refused answers one of BAD, NO, FULL, or a FINDING, of several the one that stands first with it, and
 * changes nothing (but the tape, where told)": every promise's refusals, each on the last wrong input ahead of the
 * right ones and the first behind them, with all that can be asked for before and after.
 */
public final class RefusedTest {
    private static final int LEAST = Integer.MIN_VALUE, MOST = Integer.MAX_VALUE;
    private static final Due D = new Due();
    private static final Twins BUSY = new Twins(D, "", RefusedTest::busy);

    public static void main(String[] args) {
        theSceneIsBusy();
        people();
        ordersAndRivals();
        tape();
        rights();
        visits();
        visitsWithReasons();
        rulesAndDays();
        sheets();
        sheetsThatAreMissing();
        full();
        fullOfVisits();
        nothingThere();
        askingChangesNothing();
        D.end();
    }

    /**
     * Something of everything; day 3. Visit 3 waits and would be let as soon as it is looked at, so a refused call that
     * makes those who wait be looked at shows.
     */
    private static VisitHall busy() {
        VisitHall x = new VisitHall();
        Due.right(x, 0, "9 in 1 long 4");
        Due.right(x, 1, "1 in 7 far 5 and 2 long 3 not 0 or 6");
        x.rule(0, 1);
        x.rule(1, 3);
        x.rule(2, 17);
        int[][] prisoners = {{0, 0}, {0, 1}, {1, 2}, {3, 3}, {0, 4}};
        for (int[] p : prisoners) {
            x.prisoner(p[0], p[1]);
        }
        int[][] visitors = {{0, 0, 0}, {1, 0, 5}, {2, 4, 20}, {3, 0, 0}, {0, 1, 0}, {2, 0, 0}};
        for (int[] v : visitors) {
            x.visitor(v[0], v[1], v[2]);
        }
        int[][] lists = {{0, 0}, {0, 1}, {0, 3}, {0, 4}, {1, 4}, {2, 1}, {3, 0}};
        for (int[] on : lists) {
            x.list(on[0], on[1], 1);
        }
        x.rivals(0, 2, 1);
        x.order(2, 1, 300);
        x.ask(0, 1, 1, 2, 0);
        x.ask(1, 16, 1, 1, 1);
        x.ask(0, 1, 5, 2, 0);
        x.ask(1, 16, 5, 1, 1);
        x.ask(0, 10, 6, 2, 0);
        x.ask(1, 4, 6, 43, 0);
        x.move(3);
        x.order(0, 0, 5);
        x.days(3);
        x.sheet(0, 5);
        x.sheet(1, 3);
        int[] marks = {1, 2, 3, -1, 6};
        for (int i = 0; i < marks.length; i++) {
            x.mark(0, i, marks[i]);
        }
        x.mark(1, 2, 9);
        Due.tell(x, "3 in 9 long 1");
        return x;
    }

    /** The scene is what the refusals below count on. */
    private static void theSceneIsBusy() {
        VisitHall x = busy();
        D.due("scene: states", Due.states(x, 6), "012100");
        int[] counts = {4, 6, 6, 3, 2, 2, 3, 13, 1};
        for (int what = 0; what < counts.length; what++) {
            D.due("scene: count(" + what + ")", x.count(what), counts[what]);
        }
        D.due("scene: visit 3 is let when looked at", x.rivals(8, 9, 0), 0);
        D.due("scene: visit 3 is let when looked at", x.visit(3, 5), 0);
    }

    private static void bad(String call, ToIntFunction<VisitHall> made) {
        BUSY.same(call, made, Due.BAD);
    }

    private static void people() {
        for (int c : new int[] {LEAST, -1, 4, MOST}) {
            bad("2: prisoner of class " + c, x -> x.prisoner(c, 0));
        }
        for (int f : new int[] {LEAST, -1, 10, MOST}) {
            bad("2: prisoner of family " + f, x -> x.prisoner(0, f));
            bad("3: visitor of family " + f, x -> x.visitor(0, f, 0));
        }
        for (int k : new int[] {LEAST, -1, 4, MOST}) {
            bad("3: visitor of kind " + k, x -> x.visitor(k, 0, 0));
            bad("4: isOf kind " + k, x -> x.isOf(0, k));
        }
        for (int p : new int[] {LEAST, -1, 5, MOST}) {
            bad("5: list of prisoner " + p, x -> x.list(p, 0, 1));
            bad("9: move of prisoner " + p, x -> x.move(p));
            bad("10: told of prisoner " + p, x -> x.told(p, 0));
            bad("10: told what " + p, x -> x.told(0, p));
        }
        for (int w : new int[] {LEAST, -1, 21, MOST}) {
            bad("3: visitor of way " + w, x -> x.visitor(0, 0, w));
        }
        for (int v : new int[] {LEAST, -1, 6, MOST}) {
            bad("4: isOf visitor " + v, x -> x.isOf(v, 0));
            bad("5: list of visitor " + v, x -> x.list(0, v, 1));
        }
        for (int on : new int[] {LEAST, -1, 2, MOST}) {
            bad("5: list on " + on, x -> x.list(0, 2, on));
        }
        BUSY.same("9: move of one who is not here", x -> x.move(3), Due.NO);
    }

    private static void ordersAndRivals() {
        for (int p : new int[] {LEAST, -1, 5, MOST}) {
            bad("6: order of prisoner " + p, x -> x.order(p, 0, 3));
            bad("7: lift of prisoner " + p, x -> x.lift(p, 0));
        }
        for (int v : new int[] {LEAST, -1, 6, MOST}) {
            bad("6: order of visitor " + v, x -> x.order(0, v, 3));
            bad("7: lift of visitor " + v, x -> x.lift(0, v));
        }
        for (int day : new int[] {LEAST, -1, 401, MOST}) {
            bad("6: order of day " + day, x -> x.order(0, 3, day));
        }
        BUSY.same("7: lift of what is not there", x -> x.lift(0, 1), Due.NO);
        BUSY.same("7: lift of another prisoner's", x -> x.lift(2, 0), Due.NO);
        for (int f : new int[] {LEAST, -1, 10, MOST}) {
            bad("8: rivals of " + f, x -> x.rivals(f, 0, 1));
            bad("8: rivals with " + f, x -> x.rivals(0, f, 1));
        }
        for (int f = 0; f < 10; f++) {
            int own = f;
            bad("8: its own rival, on 1: " + f, x -> x.rivals(own, own, 1));
            bad("8: its own rival, on 0: " + f, x -> x.rivals(own, own, 0));
        }
        for (int on : new int[] {LEAST, -1, 2, MOST}) {
            bad("8: rivals on " + on, x -> x.rivals(0, 1, on));
            bad("8: rivals that are, on " + on, x -> x.rivals(0, 2, on));
        }
    }

    private static void tape() {
        for (int n : new int[] {LEAST, -1, 14, 60, 61, MOST}) {
            bad("12: trim to " + n + " of 13", x -> x.trim(n));
        }
    }

    /** Against one whose tape was cut to nothing: right() uses the tape up, and changes nothing else. */
    private static void rights() {
        Twins used = new Twins(D, "", () -> {
            VisitHall x = busy();
            x.trim(0);
            return x;
        });
        for (int c : new int[] {LEAST, -1, 4, MOST}) {
            used.same("13: right of class " + c, x -> Due.right(x, c, "2 in 2"), Due.BAD);
            used.same("13: right of class " + c + " is asked first", x -> Due.right(x, c, "2 on 2"), Due.BAD);
            used.same("13: right of class " + c + " of nothing", x -> x.right(c), Due.BAD);
        }
        used.same("13: right of nothing", x -> x.right(0), -100);
        used.same("13: right with a fault", x -> Due.right(x, 0, "2 on 2"), -102);
        used.same("13: right with a fault in its last word", x -> Due.right(x, 1, "8 in 8 far 8 and 8 long 1 not 8"), -130);
        used.same("13: right that ends too soon", x -> Due.right(x, 3, "8 in 8 far 8 and 8 long 1 not 6 or"), -134);
        for (int c : new int[] {LEAST, -1, 4, MOST}) {
            bad("14: of class " + c, x -> x.of(c, 0));
            bad("14: of class " + c + " and what 6", x -> x.of(c, 6));
        }
        for (int what : new int[] {LEAST, -1, 6, MOST}) {
            bad("14: of what " + what, x -> x.of(0, what));
            bad("14: of what " + what + " without a text", x -> x.of(3, what));
        }
        for (int what = 0; what < 6; what++) {
            int w = what;
            BUSY.same("14: of what " + what + " without a text", x -> x.of(3, w), Due.NO);
        }
    }

    private static void visits() {
        int[][] wrong = {{LEAST, 1, 4, 2}, {-1, 1, 4, 2}, {5, 1, 4, 2}, {MOST, 1, 4, 2}, {0, 0, 4, 2}, {0, 15, 4, 2},
            {0, 64, 4, 2}, {0, 65, 4, 2}, {0, LEAST, 4, 2}, {0, MOST, 4, 2}, {0, -1, 4, 2}, {0, 1, LEAST, 2},
            {0, 1, -1, 2}, {0, 1, 2, 2}, {0, 1, 401, 2}, {0, 1, MOST, 2}, {0, 1, 4, LEAST}, {0, 1, 4, -1},
            {0, 1, 4, 0}, {0, 1, 4, 5}, {0, 1, 4, 10}, {0, 1, 4, 15}, {0, 1, 4, 94}, {0, 1, 4, 103}, {0, 1, 4, 112},
            {0, 1, 4, 120}, {0, 1, 4, 121}, {0, 1, 4, MOST}};
        for (int[] w : wrong) {
            String call = "(" + w[0] + ", " + w[1] + ", " + w[2] + ", " + w[3];
            bad("15: ask" + call + ", 0)", x -> x.ask(w[0], w[1], w[2], w[3], 0));
            bad("15: ask" + call + ", 1)", x -> x.ask(w[0], w[1], w[2], w[3], 1));
            bad("16: why" + call + ")", x -> x.why(w[0], w[1], w[2], w[3]));
        }
        for (int wait : new int[] {LEAST, -1, 2, MOST}) {
            bad("15: ask with wait " + wait, x -> x.ask(0, 1, 4, 2, wait));
            bad("15: ask of one that is refused, with wait " + wait, x -> x.ask(3, 1, 4, 2, wait));
        }
        for (int v : new int[] {LEAST, -1, 6, 99, 100, MOST}) {
            bad("17: giveBack of " + v, x -> x.giveBack(v));
            bad("18: visit " + v, x -> x.visit(v, 0));
        }
        for (int what : new int[] {LEAST, -1, 7, MOST}) {
            bad("18: visit what " + what, x -> x.visit(0, what));
        }
        BUSY.same("17: giveBack of one of a past day", x -> x.giveBack(0), Due.NO);
        BUSY.same("17: giveBack of one that waits for a past day", x -> x.giveBack(1), Due.NO);
        BUSY.same("17: giveBack of one that is given back", x -> x.giveBack(2), Due.NO);
    }

    private static void visitsWithReasons() {
        for (int wait = 0; wait < 2; wait++) {
            int w = wait;
            BUSY.same("15: reason 1, wait " + w, x -> x.ask(3, 1, 4, 2, w), -11);
            BUSY.same("15: reason 2, wait " + w, x -> x.ask(1, 1, 4, 2, w), -12);
            BUSY.same("15: reason 3, wait " + w, x -> x.ask(0, 1, 5, 2, w), -13);
            BUSY.same("15: reason 4, wait " + w, x -> x.ask(0, 8, 4, 2, w), -14);
            BUSY.same("15: reason 5, wait " + w, x -> x.ask(2, 2, 6, 2, w), -15);
        }
        Twins used = new Twins(D, "", () -> {
            VisitHall x = busy();
            x.trim(0);
            Due.right(x, 0, "1 in 1");
            return x;
        });
        used.same("15: reason 6", x -> x.ask(0, 2, 6, 101, 0), -16);
        BUSY.same("15: reason 7", x -> x.ask(0, 2, 6, 1, 0), -17);
        BUSY.same("15: reason 8", x -> x.ask(2, 4, 6, 11, 0), -18);
        BUSY.same("15: reason 9", x -> x.ask(1, 16, 6, 1, 0), -19);
        BUSY.same("15: reason 9, by the sheet", x -> x.ask(1, 16, 3, 1, 0), -19);
        BUSY.same("15: reason 9 of a lawyer's, by the sheet", x -> x.ask(1, 4, 3, 1, 0), -19);
        BUSY.same("15: reason 9 of a lawyer's, with one that could be given back", x -> x.ask(4, 32, 6, 14, 0), -19);
    }

    private static void rulesAndDays() {
        int[][] wrong = {{0, LEAST}, {0, -1}, {0, 0}, {0, 7}, {0, MOST}, {1, LEAST}, {1, -1}, {1, 0}, {1, 101},
            {1, MOST}, {-1, 1}, {3, 1}, {LEAST, 1}, {MOST, 1}};
        for (int[] w : wrong) {
            bad("19: rule(" + w[0] + ", " + w[1] + ")", x -> x.rule(w[0], w[1]));
        }
        for (int n : new int[] {LEAST, -1, 0, 61, MOST}) {
            bad("20: days(" + n + ")", x -> x.days(n));
        }
        Twins late = new Twins(D, "", RefusedTest::late);
        late.same("20: days past 400", x -> x.days(38), Due.BAD);
        late.same("20: days past 400", x -> x.days(60), Due.BAD);
        late.same("20: days past 400", x -> x.days(MOST), Due.BAD);
        for (int day : new int[] {LEAST, -1, 401, MOST}) {
            bad("21: hall of day " + day, x -> x.hall(day, 0, 0));
            bad("22: comes on day " + day, x -> x.comes(day, 0));
        }
        for (int half : new int[] {LEAST, -1, 12, MOST}) {
            bad("21: hall at half " + half, x -> x.hall(6, half, 0));
        }
        for (int what : new int[] {LEAST, -1, 2, MOST}) {
            bad("21: hall what " + what, x -> x.hall(6, 0, what));
            bad("22: comes what " + what, x -> x.comes(6, what));
        }
        for (int what : new int[] {LEAST, -1, 9, MOST}) {
            bad("27: count(" + what + ")", x -> x.count(what));
        }
    }

    /** Day 363. */
    private static VisitHall late() {
        VisitHall x = busy();
        for (int i = 0; i < 6; i++) {
            x.days(60);
        }
        return x;
    }

    private static void sheets() {
        for (int s : new int[] {LEAST, -1, 2, MOST}) {
            bad("23: sheet " + s, x -> x.sheet(s, 1));
            bad("23: sheet " + s + " stands ahead of SIZE", x -> x.sheet(s, -1));
            bad("24: mark of sheet " + s, x -> x.mark(s, 0, 1));
            bad("24: mark of sheet " + s + " stands ahead of INDEX", x -> x.mark(s, -1, 1));
            bad("25: copy from sheet " + s, x -> x.copy(s, 0, 1, 0, 1));
            bad("25: copy to sheet " + s, x -> x.copy(0, 0, s, 0, 1));
            bad("25: copy to sheet " + s + " stands ahead of INDEX", x -> x.copy(0, -1, s, 0, 1));
            bad("26: lose sheet " + s, x -> x.lose(s));
        }
        bad("23: 61 places", x -> x.sheet(0, 61));
        bad("23: most places", x -> x.sheet(1, MOST));
        BUSY.same("23: -1 places", x -> x.sheet(0, -1), Due.SIZE);
        BUSY.same("23: least places", x -> x.sheet(1, LEAST), Due.SIZE);
        for (int place : new int[] {LEAST, -1, 5, 59, 60, MOST}) {
            BUSY.same("24: mark of place " + place, x -> x.mark(0, place, 1), Due.INDEX);
        }
        BUSY.same("24: mark of place 3 of 3", x -> x.mark(1, 3, 1), Due.INDEX);
        int[][] wrong = {{0, -1, 1, 0, 1}, {0, 0, 1, -1, 1}, {0, 5, 1, 0, 1}, {0, 0, 1, 3, 1}, {0, 0, 1, 0, 4},
            {0, 3, 1, 0, 3}, {0, 0, 1, 1, 3}, {1, 0, 0, 0, 4}, {1, 0, 0, 3, 3}, {1, 1, 0, 0, 3}, {0, 6, 1, 0, 0},
            {0, 0, 1, 4, 0}, {0, -1, 1, 0, 0}, {0, 0, 1, -1, 0}, {0, 0, 0, 0, 6}, {0, 1, 0, 0, 5}, {0, 0, 0, 1, 5},
            {0, 0, 1, 0, -1}, {0, 0, 1, 0, LEAST}, {0, 0, 1, 0, MOST}, {0, MOST, 1, 0, 1}, {0, 0, 1, MOST, 1},
            {0, LEAST, 1, 0, 1}, {0, 0, 1, LEAST, 1}, {0, MOST, 1, MOST, MOST}, {0, 1, 1, 1, MOST}, {0, 2, 1, 2, -1},
            {0, LEAST, 1, LEAST, LEAST}};
        for (int[] w : wrong) {
            BUSY.same("25: copy(" + w[0] + ", " + w[1] + ", " + w[2] + ", " + w[3] + ", " + w[4] + ")",
                x -> x.copy(w[0], w[1], w[2], w[3], w[4]), Due.INDEX);
        }
    }

    private static void sheetsThatAreMissing() {
        for (int s = 0; s < 2; s++) {
            int gone = s;
            int kept = 1 - s;
            Twins one = new Twins(D, "sheet " + s + " missing, ", () -> {
                VisitHall x = busy();
                x.lose(gone);
                return x;
            });
            one.same("24: mark", x -> x.mark(gone, 0, 1), Due.NOTHING);
            one.same("24: NOTHING stands ahead of INDEX", x -> x.mark(gone, -1, 1), Due.NOTHING);
            one.same("24: NOTHING stands ahead of INDEX", x -> x.mark(gone, 60, 1), Due.NOTHING);
            one.same("25: copy from it", x -> x.copy(gone, 0, kept, 0, 1), Due.NOTHING);
            one.same("25: copy to it", x -> x.copy(kept, 0, gone, 0, 1), Due.NOTHING);
            one.same("25: copy within it", x -> x.copy(gone, 0, gone, 0, 0), Due.NOTHING);
            one.same("25: copy of none", x -> x.copy(kept, 0, gone, 0, 0), Due.NOTHING);
            one.same("25: NOTHING stands ahead of INDEX", x -> x.copy(kept, -1, gone, 0, 1), Due.NOTHING);
            one.same("25: NOTHING stands ahead of INDEX", x -> x.copy(gone, 0, kept, 61, 1), Due.NOTHING);
            one.same("25: NOTHING stands ahead of INDEX", x -> x.copy(gone, 0, kept, 0, -1), Due.NOTHING);
            one.same("25: BAD stands ahead of NOTHING", x -> x.copy(gone, 0, 2, 0, 1), Due.BAD);
            one.same("25: BAD stands ahead of NOTHING", x -> x.copy(-1, 0, gone, 0, 1), Due.BAD);
            one.same("26: lose", x -> x.lose(gone), Due.NOTHING);
            one.same("23: 61 places", x -> x.sheet(gone, 61), Due.BAD);
            one.same("23: -1 places", x -> x.sheet(gone, -1), Due.SIZE);
        }
    }

    private static void full() {
        Twins all = new Twins(D, "full, ", () -> {
            VisitHall x = busy();
            for (int i = 5; i < 10; i++) {
                x.prisoner(0, i);
            }
            for (int i = 6; i < 14; i++) {
                x.visitor(i % 4, 0, 0);
            }
            x.trim(1);
            for (int i = 0; i < 4; i++) {
                x.feed(0x30303030, 0x30303030, 0x30303030);
            }
            return x;
        });
        all.same("2: an eleventh prisoner", x -> x.prisoner(0, 0), Due.FULL);
        all.same("2: BAD stands ahead of FULL", x -> x.prisoner(4, 0), Due.BAD);
        all.same("2: BAD stands ahead of FULL", x -> x.prisoner(0, 10), Due.BAD);
        all.same("3: a fifteenth visitor", x -> x.visitor(0, 0, 0), Due.FULL);
        all.same("3: BAD stands ahead of FULL", x -> x.visitor(4, 0, 0), Due.BAD);
        all.same("3: BAD stands ahead of FULL", x -> x.visitor(0, -1, 0), Due.BAD);
        all.same("3: BAD stands ahead of FULL", x -> x.visitor(0, 0, 21), Due.BAD);
        all.same("11: a tape of 49 bytes", x -> x.feed(1, 2, 3), Due.FULL);
        all.same("4: visitor 14", x -> x.isOf(14, 0), Due.BAD);
        all.same("5: visitor 14", x -> x.list(0, 14, 1), Due.BAD);
        all.same("5: prisoner 10", x -> x.list(10, 0, 1), Due.BAD);
        all.same("6: visitor 14", x -> x.order(0, 14, 3), Due.BAD);
        all.same("6: prisoner 10", x -> x.order(10, 0, 3), Due.BAD);
        all.same("7: visitor 14", x -> x.lift(0, 14), Due.BAD);
        all.same("9: prisoner 10", x -> x.move(10), Due.BAD);
        all.same("10: prisoner 10", x -> x.told(10, 0), Due.BAD);
        all.same("15: visitor 14", x -> x.ask(0, 1 << 14, 4, 2, 0), Due.BAD);
        all.same("15: four of fourteen", x -> x.ask(0, 15 << 10, 4, 2, 0), Due.BAD);
        all.same("16: visitor 14 as a second", x -> x.why(0, 1 << 14 | 1, 4, 2), Due.BAD);
    }

    private static void fullOfVisits() {
        Twins all = new Twins(D, "100 visits, ", () -> {
            VisitHall x = busy();
            for (int i = 6; i < 100; i++) {
                x.ask(1, 16, 6, 41, 1);
            }
            return x;
        });
        all.same("27: there are 100", x -> x.count(2), 100);
        all.same("15: one that would be let", x -> x.ask(0, 1, 4, 2, 0), Due.FULL);
        all.same("15: one that would wait", x -> x.ask(1, 16, 6, 1, 1), Due.FULL);
        all.same("15: one that would be refused", x -> x.ask(3, 1, 4, 2, 0), Due.FULL);
        all.same("15: a lawyer's for which others would be given back", x -> x.ask(1, 4, 6, 1, 0), Due.FULL);
        all.same("15: BAD stands ahead of FULL", x -> x.ask(0, 1, 4, 0, 0), Due.BAD);
        all.same("15: BAD stands ahead of FULL", x -> x.ask(0, 1, 4, 2, 2), Due.BAD);
        all.same("16: why is not full", x -> x.why(0, 1, 4, 2), 0);
        all.same("17: visit 100", x -> x.giveBack(100), Due.BAD);
        all.same("18: visit 100", x -> x.visit(100, 0), Due.BAD);
    }

    /** On a new object there is nobody and nothing. */
    private static void nothingThere() {
        Twins empty = new Twins(D, "new, ", VisitHall::new);
        empty.same("4: isOf", x -> x.isOf(0, 0), Due.BAD);
        empty.same("5: list", x -> x.list(0, 0, 1), Due.BAD);
        empty.same("6: order", x -> x.order(0, 0, 0), Due.BAD);
        empty.same("7: lift", x -> x.lift(0, 0), Due.BAD);
        empty.same("9: move", x -> x.move(0), Due.BAD);
        empty.same("10: told", x -> x.told(0, 0), Due.BAD);
        empty.same("12: trim", x -> x.trim(1), Due.BAD);
        empty.same("12: trim to nothing", x -> x.trim(0), 0);
        empty.same("13: right", x -> x.right(0), -100);
        empty.same("14: of", x -> x.of(0, 0), Due.NO);
        empty.same("15: ask", x -> x.ask(0, 1, 0, 1, 1), Due.BAD);
        empty.same("16: why", x -> x.why(0, 1, 0, 1), Due.BAD);
        empty.same("17: giveBack", x -> x.giveBack(0), Due.BAD);
        empty.same("18: visit", x -> x.visit(0, 0), Due.BAD);
        empty.same("24: mark", x -> x.mark(0, 0, 1), Due.NOTHING);
        empty.same("25: copy", x -> x.copy(0, 0, 1, 0, 0), Due.NOTHING);
        empty.same("26: lose", x -> x.lose(0), Due.NOTHING);
        empty.same("26: lose", x -> x.lose(1), Due.NOTHING);
    }

    /** Calls that just tell leave all as it was, why() also where others would be given back. */
    private static void askingChangesNothing() {
        BUSY.same("4: isOf", x -> x.isOf(3, 1), 1);
        BUSY.same("10: told", x -> x.told(0, 4), 1);
        BUSY.same("14: of", x -> x.of(1, 5), 65);
        BUSY.same("16: why 0", x -> x.why(0, 1, 4, 2), 0);
        BUSY.same("16: why 3", x -> x.why(0, 1, 5, 2), 3);
        BUSY.same("16: why 0 by giving back", x -> x.why(1, 4, 6, 1), 0);
        BUSY.same("16: why 9 of a lawyer's, with one that could be given back", x -> x.why(4, 32, 6, 14), 9);
        BUSY.same("18: visit", x -> x.visit(4, 1), 10);
        BUSY.same("21: hall", x -> x.hall(6, 1, 1), 0);
        BUSY.same("22: comes", x -> x.comes(6, 0), 14);
        BUSY.same("27: count", x -> x.count(3), 3);
        BUSY.same("5: list as it was", x -> x.list(0, 0, 1), 1);
        BUSY.same("12: trim to all there is", x -> x.trim(13), 13);
        BUSY.same("20: what is asked of other days", x -> x.comes(400, 1), 0);
    }
}
