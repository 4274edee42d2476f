/** Promises 20 to 27: days, the hall, searches, sheets, counts. */
public final class SheetsTest {
    private static final Due D = new Due();

    public static void main(String[] args) {
        days();
        hall();
        comes();
        sheets();
        marks();
        copies();
        losses();
        counts();
        D.end();
    }

    private static void days() {
        VisitHall x = new VisitHall();
        D.due("20: 0 days", x.days(0), Due.BAD);
        D.due("20: -1 days", x.days(-1), Due.BAD);
        D.due("20: 61 days", x.days(61), Due.BAD);
        D.due("20: very many", x.days(Integer.MAX_VALUE), Due.BAD);
        D.due("20: 1 day", x.days(1), 1);
        for (int i = 1; i <= 6; i++) {
            D.due("20: 60 days", x.days(60), 1 + 60 * i);
        }
        D.due("20: above 400", x.days(40), Due.BAD);
        D.due("20: nothing changed", x.count(6), 361);
        D.due("20: up to 400", x.days(39), 400);
        D.due("20: no more", x.days(1), Due.BAD);
    }

    private static void hall() {
        VisitHall x = Due.open("9 in 1 long 4", 4);
        x.ask(0, 1, 10, 34, 0);
        x.ask(1, 2, 10, 52, 0);
        x.ask(2, 4, 10, 61, 1);
        x.ask(3, 8, 11, 61, 0);
        int[] let = {0, 0, 0, 1, 1, 2, 3, 0, 0, 0, 0, 0};
        for (int half = 0; half < 12; half++) {
            D.due("21: let at " + half, x.hall(10, half, 0), let[half]);
            D.due("21: free at " + half, x.hall(10, half, 1), 3 - let[half]);
        }
        D.due("21: tables by rule", x.rule(0, 1), 3);
        D.due("21: 0 at least", x.hall(10, 6, 1), 0);
        D.due("21: free", x.hall(10, 7, 1), 1);
        x.days(20);
        D.due("21: of a day that is past", x.hall(10, 6, 0), 3);
        D.due("21: day -1", x.hall(-1, 0, 0), Due.BAD);
        D.due("21: day 401", x.hall(401, 0, 0), Due.BAD);
        D.due("21: day 400", x.hall(400, 0, 1), 1);
        D.due("21: half -1", x.hall(0, -1, 0), Due.BAD);
        D.due("21: half 12", x.hall(0, 12, 0), Due.BAD);
        D.due("21: what -1", x.hall(0, 0, -1), Due.BAD);
        D.due("21: what 2", x.hall(0, 0, 2), Due.BAD);
    }

    private static void comes() {
        VisitHall x = Due.open("9 in 1", 4);
        x.visitor(1, 0, 0);
        x.visitor(3, 0, 0);
        x.list(0, 4, 1);
        x.list(0, 5, 1);
        x.list(1, 0, 1);
        D.due("22: nobody", x.comes(7, 0), 0);
        D.due("22: nobody is searched", x.comes(7, 1), 0);
        x.ask(0, 32 + 16 + 1, 7, 1, 0);
        x.ask(1, 2 + 1, 7, 11, 0);
        x.ask(2, 4, 7, 11, 0);
        x.ask(3, 8, 7, 11, 1);
        x.ask(3, 8, 7, 11, 1);
        x.ask(3, 8, 8, 11, 0);
        int[] order = {0, 4, 5, 1, 2, 3};
        D.due("22: all of that day, those who wait not", x.comes(7, 0), 63);
        for (int oneIn = 1; oneIn <= 100; oneIn += 3) {
            for (int seed = -40000000; seed < 40000000; seed += 39999999) {
                x.rule(1, oneIn);
                x.rule(2, seed);
                D.due("22: one in " + oneIn + " from " + seed, x.comes(7, 1), searched(order, seed + 7, oneIn));
            }
        }
        x.rule(2, Integer.MAX_VALUE);
        x.rule(1, 1);
        D.due("22: one in 1: all but the child", x.comes(7, 1), 31);
        x.giveBack(0);
        D.due("22: less one that is given back", x.comes(7, 0), 15);
        x.days(9);
        D.due("22: of a day that is past", x.comes(7, 0), 15);
        D.due("22: day -1", x.comes(-1, 0), Due.BAD);
        D.due("22: day 401", x.comes(401, 0), Due.BAD);
        D.due("22: day 400", x.comes(400, 1), 0);
        D.due("22: what -1", x.comes(0, -1), Due.BAD);
        D.due("22: what 2", x.comes(0, 2), Due.BAD);
    }

    /** As the document tells it; visitor 5 is the child. */
    private static int searched(int[] order, int first, int oneIn) {
        int w = first;
        int bits = 0;
        for (int visitor : order) {
            w = w * 1664525 + 1013904223;
            if (visitor != 5 && Integer.toUnsignedLong(w) / 256 < 16777216 / oneIn) {
                bits |= 1 << visitor;
            }
        }
        return bits;
    }

    private static void sheets() {
        VisitHall x = new VisitHall();
        D.due("23: sheet -1", x.sheet(-1, 3), Due.BAD);
        D.due("23: sheet 2", x.sheet(2, 3), Due.BAD);
        D.due("23: sheet stands ahead of SIZE", x.sheet(2, -1), Due.BAD);
        D.due("23: 61", x.sheet(0, 61), Due.BAD);
        D.due("23: -1", x.sheet(0, -1), Due.SIZE);
        D.due("23: still missing", x.lose(0), Due.NOTHING);
        D.due("23: 60", x.sheet(0, 60), 60);
        D.due("23: last place", x.mark(0, 59, 5), 0);
        D.due("23: anew", x.sheet(0, 60), 60);
        D.due("23: all 0", x.mark(0, 59, 5), 0);
        D.due("23: none", x.sheet(0, 0), 0);
        D.due("23: no place", x.mark(0, 0, 5), Due.INDEX);
        D.due("23: not missing", x.lose(0), 0);
    }

    private static void marks() {
        VisitHall x = new VisitHall();
        D.due("24: missing", x.mark(0, 0, 0), Due.NOTHING);
        D.due("24: sheet 2", x.mark(2, 0, 0), Due.BAD);
        D.due("24: sheet -1", x.mark(-1, 0, 0), Due.BAD);
        x.sheet(0, 4);
        x.sheet(1, 2);
        D.due("24: place -1", x.mark(0, -1, 0), Due.INDEX);
        D.due("24: place 4", x.mark(0, 4, 0), Due.INDEX);
        D.due("24: place 2 of the other", x.mark(1, 2, 0), Due.INDEX);
        D.due("24: what it was", x.mark(0, 3, 6), 0);
        D.due("24: free", x.hall(3, 0, 1), 6);
        D.due("24: what it was", x.mark(0, 3, 7), 6);
        D.due("24: 7 counts as 0", x.hall(3, 0, 1), 0);
        D.due("24: what it was", x.mark(0, 3, 128 + 6), 7);
        D.due("24: as a byte", x.hall(3, 0, 1), 0);
        D.due("24: as a byte", x.mark(0, 3, 256 + 6), -122);
        D.due("24: as a byte", x.hall(3, 0, 1), 6);
        D.due("24: as a byte", x.mark(0, 3, -1), 6);
        D.due("24: below 0 counts as 0", x.hall(3, 0, 1), 0);
        D.due("24: as a byte", x.mark(0, 3, 2), -1);
        D.due("24: SHEET 1 tells no tables", x.mark(1, 1, 5), 0);
        D.due("24: SHEET 1 tells no tables", x.hall(1, 0, 1), 0);
        D.due("24: no such place: the rule", x.hall(4, 0, 1), 3);
        marksLetNobody();
    }

    /** What a sheet tells is used from the next look on; telling it makes nobody be looked at. */
    private static void marksLetNobody() {
        VisitHall x = Due.open("9 in 1", 2);
        x.sheet(0, 1);
        D.due("24: no table", x.ask(0, 1, 0, 1, 1), 0);
        x.mark(0, 0, 1);
        D.due("24: not looked at", x.visit(0, 5), 1);
        x.lose(0);
        D.due("26: not looked at", x.visit(0, 5), 1);
        x.rule(0, 3);
        D.due("19: looked at", x.visit(0, 5), 0);
    }

    private static void copies() {
        VisitHall x = new VisitHall();
        D.due("25: both missing", x.copy(0, 0, 1, 0, 0), Due.NOTHING);
        x.sheet(0, 5);
        D.due("25: to is missing", x.copy(0, 0, 1, 0, 0), Due.NOTHING);
        D.due("25: from is missing", x.copy(1, 0, 0, 0, 0), Due.NOTHING);
        D.due("25: NOTHING stands ahead of INDEX", x.copy(0, -1, 1, 0, 0), Due.NOTHING);
        x.sheet(1, 3);
        D.due("25: from -1", x.copy(-1, 0, 1, 0, 0), Due.BAD);
        D.due("25: from 2", x.copy(2, 0, 1, 0, 0), Due.BAD);
        D.due("25: to -1", x.copy(0, 0, -1, 0, 0), Due.BAD);
        D.due("25: to 2", x.copy(0, 0, 2, 0, 0), Due.BAD);
        for (int i = 0; i < 5; i++) {
            x.mark(0, i, i + 1);
        }
        D.due("25: too many for to", x.copy(0, 0, 1, 0, 4), Due.INDEX);
        D.due("25: behind the end of to", x.copy(0, 0, 1, 1, 3), Due.INDEX);
        D.due("25: behind the end of from", x.copy(0, 3, 1, 0, 3), Due.INDEX);
        D.due("25: place -1", x.copy(0, -1, 1, 0, 1), Due.INDEX);
        D.due("25: at -1", x.copy(0, 0, 1, -1, 1), Due.INDEX);
        D.due("25: many -1", x.copy(0, 0, 1, 0, -1), Due.INDEX);
        D.due("25: sums that wrap", x.copy(0, Integer.MAX_VALUE, 1, 0, 2), Due.INDEX);
        D.due("25: sums that wrap", x.copy(0, 1, 1, 0, Integer.MAX_VALUE), Due.INDEX);
        D.due("25: none, behind the last place", x.copy(0, 5, 1, 3, 0), 0);
        D.due("25: none, farther behind", x.copy(0, 6, 1, 3, 0), Due.INDEX);
        D.due("25: three", x.copy(0, 2, 1, 0, 3), 3);
        D.due("25: they are there", x.mark(1, 2, 0), 5);
        D.due("25: within one, rising", x.copy(0, 0, 0, 1, 4), 4);
        int[] due = {1, 1, 2, 3, 4};
        for (int i = 0; i < 5; i++) {
            D.due("25: as they were, place " + i, x.mark(0, i, i + 1), due[i]);
        }
        D.due("25: within one, falling", x.copy(0, 1, 0, 0, 4), 4);
        int[] back = {2, 3, 4, 5, 5};
        for (int i = 0; i < 5; i++) {
            D.due("25: as they were, place " + i, x.mark(0, i, 0), back[i]);
        }
    }

    private static void losses() {
        VisitHall x = new VisitHall();
        D.due("26: sheet -1", x.lose(-1), Due.BAD);
        D.due("26: sheet 2", x.lose(2), Due.BAD);
        D.due("26: missing", x.lose(1), Due.NOTHING);
        x.sheet(1, 9);
        x.sheet(0, 7);
        D.due("26: nine", x.lose(1), 9);
        D.due("26: no more", x.lose(1), Due.NOTHING);
        D.due("26: no table by SHEET 0", x.hall(6, 0, 1), 0);
        D.due("26: seven", x.lose(0), 7);
        D.due("26: tables by the rule", x.hall(6, 0, 1), 3);
    }

    private static void counts() {
        VisitHall x = Due.open("9 in 1", 3);
        x.rule(0, 1);
        x.ask(0, 1, 0, 1, 0);
        x.ask(1, 2, 0, 1, 1);
        x.ask(2, 4, 5, 1, 1);
        x.ask(2, 4, 6, 1, 1);
        x.giveBack(3);
        x.order(0, 1, 3);
        x.order(1, 1, 3);
        x.rivals(3, 4, 1);
        x.rivals(5, 4, 1);
        x.rivals(5, 6, 1);
        x.feed(0, 0, 0);
        x.move(2);
        x.days(5);
        int[] due = {2, 3, 4, 1, 1, 2, 5, 12, 3};
        for (int what = 0; what <= 8; what++) {
            D.due("27: count(" + what + ")", x.count(what), due[what]);
        }
        x.lift(0, 1);
        D.due("27: an order less", x.count(5), 1);
        D.due("27: who waits for a past day, waits", x.visit(1, 5), 1);
        D.due("27: what 9", x.count(9), Due.BAD);
        D.due("27: what -1", x.count(-1), Due.BAD);
    }
}
