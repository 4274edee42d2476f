/** The edges of promises 23 to 26: "SHEETS 0, 1 are rows of bytes with 0 to 60 places, or MISSING (at first)". */
public final class SheetEdgesTest {
    private static final Due D = new Due();

    public static void main(String[] args) {
        missingAtFirst();
        whichSheets();
        zeroToSixtyPlaces();
        allZero();
        eachPlace();
        asAByte();
        twoSheets();
        copyEachRun();
        copyWithinOne();
        copyOfNone();
        copyOfAll();
        copyOfBytes();
        copyThatWraps();
        loseAndMakeAnew();
        D.end();
    }

    private static void missingAtFirst() {
        VisitHall x = new VisitHall();
        for (int s = 0; s < 2; s++) {
            D.due("26: lose " + s, x.lose(s), Due.NOTHING);
            D.due("24: mark " + s, x.mark(s, 0, 1), Due.NOTHING);
            D.due("24: mark " + s + ", no place", x.mark(s, -1, 1), Due.NOTHING);
            D.due("25: copy within " + s, x.copy(s, 0, s, 0, 0), Due.NOTHING);
            D.due("25: copy from " + s, x.copy(s, 0, 1 - s, 0, 0), Due.NOTHING);
        }
        D.due("21: tables by the rule", x.hall(0, 0, 1), 3);
    }

    /** "SHEETS 0, 1". */
    private static void whichSheets() {
        VisitHall x = new VisitHall();
        for (int s = -2; s <= 3; s++) {
            boolean is = s == 0 || s == 1;
            D.due("23: sheet " + s, x.sheet(s, 3), is ? 3 : Due.BAD);
            D.due("24: sheet " + s, x.mark(s, 2, 4), is ? 0 : Due.BAD);
            D.due("25: from sheet " + s, x.copy(s, 2, s, 0, 1), is ? 1 : Due.BAD);
            D.due("26: sheet " + s, x.lose(s), is ? 3 : Due.BAD);
            x.sheet(0, 3);
            D.due("25: to sheet " + s, x.copy(0, 0, s, 0, 1), s == 0 ? 1 : s == 1 ? Due.NOTHING : Due.BAD);
        }
    }

    /** "with 0 to 60 places": "BAD: sheet, n above 60; SIZE". */
    private static void zeroToSixtyPlaces() {
        for (int n = -3; n <= 64; n++) {
            VisitHall x = new VisitHall();
            x.sheet(1, 7);
            D.due("23: " + n + " places", x.sheet(1, n), n < 0 ? Due.SIZE : n > 60 ? Due.BAD : n);
            int has = n < 0 || n > 60 ? 7 : n;
            D.due("24: the place behind the last of " + n, x.mark(1, has, 1), Due.INDEX);
            D.due("24: the last place of " + n, x.mark(1, has - 1, 1), has == 0 ? Due.INDEX : 0);
            D.due("26: " + n + " places", x.lose(1), has);
            D.due("26: missing then", x.lose(1), Due.NOTHING);
        }
        VisitHall y = new VisitHall();
        D.due("23: least", y.sheet(0, Integer.MIN_VALUE), Due.SIZE);
        D.due("23: most", y.sheet(0, Integer.MAX_VALUE), Due.BAD);
        D.due("23: BAD stands ahead of SIZE", y.sheet(2, Integer.MIN_VALUE), Due.BAD);
        D.due("26: still missing", y.lose(0), Due.NOTHING);
    }

    /** "A SHEET has n places, all 0": also where more, or less, was there before. */
    private static void allZero() {
        VisitHall x = new VisitHall();
        int[] sizes = {60, 30, 60, 0, 60, 1, 60};
        for (int n : sizes) {
            D.due("23: " + n, x.sheet(0, n), n);
            for (int place = 0; place < n; place++) {
                D.due("23: place " + place + " of " + n, x.mark(0, place, 5), 0);
            }
        }
        x.lose(0);
        x.sheet(0, 60);
        D.due("23: behind a loss", x.mark(0, 0, 1), 0);
        D.due("23: behind a loss", x.mark(0, 59, 1), 0);
    }

    /** "INDEX: there is no such place": every place of sheets of several lengths, and beyond. */
    private static void eachPlace() {
        for (int n : new int[] {0, 1, 2, 59, 60}) {
            VisitHall x = new VisitHall();
            x.sheet(0, n);
            for (int place = -2; place <= 62; place++) {
                boolean is = place >= 0 && place < n;
                D.due("24: place " + place + " of " + n, x.mark(0, place, 9), is ? 0 : Due.INDEX);
                D.due("24: what it was", x.mark(0, place, 8), is ? 9 : Due.INDEX);
            }
            D.due("24: least place", x.mark(0, Integer.MIN_VALUE, 1), Due.INDEX);
            D.due("24: most place", x.mark(0, Integer.MAX_VALUE, 1), Due.INDEX);
            D.due("24: a place that wraps", x.mark(0, 256, 1), Due.INDEX);
            D.due("24: one more place that wraps", x.mark(0, 1 << 16, 1), Due.INDEX);
        }
    }

    /** "A place of a SHEET becomes v (as a byte ..): what it was": every byte, and numbers that wrap to one. */
    private static void asAByte() {
        VisitHall x = new VisitHall();
        x.sheet(0, 1);
        int was = 0;
        for (int v = -130; v <= 260; v += 3) {
            D.due("24: mark " + v, x.mark(0, 0, v), was);
            was = (v + 128 & 255) - 128;
        }
        for (int v : new int[] {127, 128, 255, 256, -128, -129, Integer.MAX_VALUE, Integer.MIN_VALUE, 65536 + 5}) {
            D.due("24: mark " + v, x.mark(0, 0, v), was);
            was = (v + 128 & 255) - 128;
            D.due("21: tables behind " + v, x.hall(0, 0, 1), was >= 0 && was <= 6 ? was : 0);
        }
    }

    /** The two do not share their places. */
    private static void twoSheets() {
        VisitHall x = new VisitHall();
        x.sheet(0, 3);
        x.sheet(1, 5);
        x.mark(0, 1, 4);
        D.due("24: the other's", x.mark(1, 1, 6), 0);
        D.due("24: its own", x.mark(0, 1, 0), 4);
        D.due("26: five", x.lose(1), 5);
        D.due("26: three", x.lose(0), 3);
    }

    /** "So many places of a SHEET come to another one": every run of four places to every place of six, and beyond. */
    private static void copyEachRun() {
        for (int place = -1; place <= 5; place++) {
            for (int at = -1; at <= 7; at++) {
                VisitHall x = new VisitHall();
                for (int many = -1; many <= 7; many++) {
                    x.sheet(0, 4);
                    x.sheet(1, 6);
                    for (int i = 0; i < 4; i++) {
                        x.mark(0, i, 10 + i);
                    }
                    boolean fits = many >= 0 && place >= 0 && place + many <= 4 && at >= 0 && at + many <= 6;
                    String call = "copy(0, " + place + ", 1, " + at + ", " + many + ")";
                    D.due("25: " + call, x.copy(0, place, 1, at, many), fits ? many : Due.INDEX);
                    for (int i = 0; i < 6; i++) {
                        boolean came = fits && i >= at && i < at + many;
                        D.due("25: place " + i + " behind " + call, x.mark(1, i, 0), came ? 10 + place + i - at : 0);
                    }
                    D.due("25: what was copied stays behind " + call, x.mark(0, 0, 0), 10);
                }
            }
        }
    }

    /** "(or the same), as they were": runs that lie over one another, both ways. */
    private static void copyWithinOne() {
        for (int place = 0; place <= 5; place++) {
            for (int at = 0; at <= 5; at++) {
                for (int many = 0; many <= 6; many++) {
                    VisitHall x = new VisitHall();
                    x.sheet(1, 5);
                    for (int i = 0; i < 5; i++) {
                        x.mark(1, i, 10 + i);
                    }
                    boolean fits = place + many <= 5 && at + many <= 5;
                    String call = "copy(1, " + place + ", 1, " + at + ", " + many + ")";
                    D.due("25: " + call, x.copy(1, place, 1, at, many), fits ? many : Due.INDEX);
                    for (int i = 0; i < 5; i++) {
                        boolean came = fits && i >= at && i < at + many;
                        D.due("25: place " + i + " behind " + call, x.mark(1, i, 0), 10 + (came ? place + i - at : i));
                    }
                }
            }
        }
    }

    /** None: from and to the place behind the last one, also of a sheet without places; but no farther. */
    private static void copyOfNone() {
        VisitHall x = new VisitHall();
        x.sheet(0, 0);
        x.sheet(1, 60);
        D.due("25: none of none", x.copy(0, 0, 0, 0, 0), 0);
        D.due("25: none behind the last", x.copy(1, 60, 0, 0, 0), 0);
        D.due("25: none to behind the last", x.copy(0, 0, 1, 60, 0), 0);
        D.due("25: none from farther", x.copy(1, 61, 0, 0, 0), Due.INDEX);
        D.due("25: none to farther", x.copy(0, 0, 1, 61, 0), Due.INDEX);
        D.due("25: none from place 1 of none", x.copy(0, 1, 1, 0, 0), Due.INDEX);
        D.due("25: one of none", x.copy(0, 0, 1, 0, 1), Due.INDEX);
        D.due("25: one to none", x.copy(1, 0, 0, 0, 1), Due.INDEX);
        D.due("25: none from -1", x.copy(1, -1, 0, 0, 0), Due.INDEX);
        D.due("25: none to -1", x.copy(1, 0, 0, -1, 0), Due.INDEX);
    }

    /** All sixty places, and one more. */
    private static void copyOfAll() {
        VisitHall x = new VisitHall();
        x.sheet(0, 60);
        x.sheet(1, 60);
        for (int i = 0; i < 60; i++) {
            x.mark(0, i, i - 30);
        }
        D.due("25: sixty-one", x.copy(0, 0, 1, 0, 61), Due.INDEX);
        D.due("25: sixty from place 1", x.copy(0, 1, 1, 0, 60), Due.INDEX);
        D.due("25: sixty to place 1", x.copy(0, 0, 1, 1, 60), Due.INDEX);
        D.due("25: sixty", x.copy(0, 0, 1, 0, 60), 60);
        for (int i = 0; i < 60; i++) {
            D.due("25: place " + i, x.mark(1, i, 0), i - 30);
        }
        D.due("25: the last one", x.copy(0, 59, 1, 59, 1), 1);
        D.due("25: the last one", x.mark(1, 59, 0), 29);
    }

    /** Copied bytes are the same bytes, also where they count as 0 TABLES; those of SHEET 0 tell tables at once. */
    private static void copyOfBytes() {
        VisitHall x = new VisitHall();
        x.sheet(0, 2);
        x.sheet(1, 2);
        x.mark(1, 0, 6);
        x.mark(1, 1, -1);
        D.due("21: no table yet", x.hall(0, 0, 1), 0);
        D.due("25: two", x.copy(1, 0, 0, 0, 2), 2);
        D.due("21: six", x.hall(0, 0, 1), 6);
        D.due("21: -1 counts as 0", x.hall(1, 0, 1), 0);
        D.due("24: it is -1", x.mark(0, 1, 0), -1);
    }

    /** Sums of place and many that wrap an int do not fit. */
    private static void copyThatWraps() {
        VisitHall x = new VisitHall();
        x.sheet(0, 60);
        x.sheet(1, 60);
        int most = Integer.MAX_VALUE;
        int least = Integer.MIN_VALUE;
        int[][] wrong = {{most, 0, 1}, {0, most, 1}, {0, 0, most}, {1, 0, most}, {0, 1, most}, {most, most, most},
            {most, most, 2}, {least, 0, most}, {0, least, most}, {0, 0, least}, {least, least, least}, {1, 1, least},
            {most, 0, least}, {0, most, least}, {59, 59, most - 58}, {0, 0, -1}, {60, 60, -1}, {60, 60, -60}};
        for (int[] w : wrong) {
            D.due("25: copy(0, " + w[0] + ", 1, " + w[1] + ", " + w[2] + ")", x.copy(0, w[0], 1, w[1], w[2]), Due.INDEX);
        }
    }

    /** "A SHEET is MISSING: how many places it had". */
    private static void loseAndMakeAnew() {
        VisitHall x = new VisitHall();
        for (int n = 0; n <= 60; n++) {
            x.sheet(0, n);
            D.due("26: " + n, x.lose(0), n);
            D.due("26: missing", x.lose(0), Due.NOTHING);
            D.due("24: missing", x.mark(0, 0, 1), Due.NOTHING);
        }
        x.sheet(0, 1);
        x.sheet(1, 1);
        D.due("26: the other stays", x.lose(0), 1);
        D.due("26: the other stays", x.mark(1, 0, 3), 0);
    }
}
