/** Promises 1 to 10: a new object, and the people. */
public final class PeopleTest {
    private static final Due D = new Due();

    public static void main(String[] args) {
        newObject();
        prisoners();
        visitors();
        kinds();
        lists();
        orders();
        lifts();
        rivals();
        moves();
        told();
        D.end();
    }

    private static void newObject() {
        VisitHall x = new VisitHall();
        for (int what = 0; what <= 8; what++) {
            D.due("1: count(" + what + ") of a new object", x.count(what), 0);
        }
        D.due("1: no prisoner", x.told(0, 0), Due.BAD);
        D.due("1: no visitor", x.isOf(0, 0), Due.BAD);
        D.due("1: no visit", x.visit(0, 0), Due.BAD);
        for (int c = 0; c < 4; c++) {
            D.due("1: no text for class " + c, x.of(c, 0), Due.NO);
        }
        D.due("1: SHEET 0 is missing", x.lose(0), Due.NOTHING);
        D.due("1: SHEET 1 is missing", x.lose(1), Due.NOTHING);
        D.due("1: three TABLES", x.rule(0, 1), 3);
        D.due("1: ONE_IN four", x.rule(1, 1), 4);
        D.due("1: SEED 0", x.rule(2, 1), 0);
        D.due("1: another object is new", new VisitHall().rule(0, 6), 3);
    }

    private static void prisoners() {
        VisitHall x = new VisitHall();
        D.due("2: class -1", x.prisoner(-1, 0), Due.BAD);
        D.due("2: class 4", x.prisoner(4, 0), Due.BAD);
        D.due("2: family -1", x.prisoner(0, -1), Due.BAD);
        D.due("2: family 10", x.prisoner(0, 10), Due.BAD);
        D.due("2: class least", x.prisoner(Integer.MIN_VALUE, Integer.MAX_VALUE), Due.BAD);
        D.due("2: nobody yet", x.count(0), 0);
        for (int i = 0; i < 10; i++) {
            D.due("2: prisoner " + i, x.prisoner(i % 4, 9 - i), i);
        }
        D.due("2: an eleventh", x.prisoner(0, 0), Due.FULL);
        D.due("2: BAD stands ahead of FULL", x.prisoner(4, 0), Due.BAD);
        D.due("2: ten", x.count(0), 10);
        D.due("2: a moved one", x.move(3), 0);
        D.due("2: their number is not free again", x.prisoner(0, 0), Due.FULL);
    }

    private static void visitors() {
        VisitHall x = new VisitHall();
        D.due("3: kind -1", x.visitor(-1, 0, 0), Due.BAD);
        D.due("3: kind 4", x.visitor(4, 0, 0), Due.BAD);
        D.due("3: family -1", x.visitor(0, -1, 0), Due.BAD);
        D.due("3: family 10", x.visitor(0, 10, 0), Due.BAD);
        D.due("3: way -1", x.visitor(0, 0, -1), Due.BAD);
        D.due("3: way 21", x.visitor(0, 0, 21), Due.BAD);
        for (int i = 0; i < 14; i++) {
            D.due("3: visitor " + i, x.visitor(i % 4, i % 10, i + 7 - 1), i);
        }
        D.due("3: a fifteenth", x.visitor(0, 0, 0), Due.FULL);
        D.due("3: BAD stands ahead of FULL", x.visitor(0, 0, 21), Due.BAD);
        D.due("3: fourteen", x.count(1), 14);
    }

    private static void kinds() {
        VisitHall x = new VisitHall();
        int[][] is = {{1, 0, 0, 0}, {1, 1, 0, 0}, {1, 0, 1, 0}, {1, 1, 0, 1}};
        for (int kind = 0; kind < 4; kind++) {
            x.visitor(kind, 0, 0);
        }
        for (int v = 0; v < 4; v++) {
            for (int kind = 0; kind < 4; kind++) {
                D.due("4: isOf(" + v + ", " + kind + ")", x.isOf(v, kind), is[v][kind]);
            }
        }
        D.due("4: visitor -1", x.isOf(-1, 0), Due.BAD);
        D.due("4: visitor 4", x.isOf(4, 0), Due.BAD);
        D.due("4: kind -1", x.isOf(0, -1), Due.BAD);
        D.due("4: kind 4", x.isOf(0, 4), Due.BAD);
    }

    private static void lists() {
        VisitHall x = withOnePrisoner();
        D.due("5: at first", x.list(0, 1, 0), 0);
        D.due("5: put on", x.list(0, 1, 1), 0);
        D.due("5: again", x.list(0, 1, 1), 1);
        D.due("5: another", x.list(0, 0, 1), 0);
        D.due("5: bits", x.told(0, 3), 3);
        D.due("5: a visit by it", x.ask(0, 2, 5, 1, 0), 0);
        D.due("5: taken off", x.list(0, 1, 0), 1);
        D.due("5: bits again", x.told(0, 3), 1);
        D.due("5: the visit stays", x.visit(0, 5), 0);
        D.due("5: prisoner", x.list(1, 0, 1), Due.BAD);
        D.due("5: prisoner -1", x.list(-1, 0, 1), Due.BAD);
        D.due("5: visitor", x.list(0, 3, 1), Due.BAD);
        D.due("5: visitor -1", x.list(0, -1, 1), Due.BAD);
        D.due("5: on 2", x.list(0, 0, 2), Due.BAD);
        D.due("5: on -1", x.list(0, 0, -1), Due.BAD);
        x.move(0);
        D.due("5: of one who is moved", x.list(0, 2, 1), 0);
    }

    private static void orders() {
        VisitHall x = withOnePrisoner();
        x.list(0, 0, 1);
        x.list(0, 1, 1);
        x.ask(0, 1, 0, 1, 0);
        x.ask(0, 3, 4, 1, 0);
        x.ask(0, 2, 5, 1, 0);
        x.ask(0, 1, 5, 22, 0);
        x.ask(0, 1, 5, 22, 1);
        D.due("6: it waits", x.visit(4, 5), 1);
        x.days(4);
        D.due("6: from its day on", x.order(0, 0, 5), 1);
        D.due("6: given back", x.visit(3, 5), 2);
        D.due("6: one that waits is not given back", x.visit(4, 5), 1);
        D.due("6: one order", x.count(5), 1);
        D.due("6: earlier, from today on", x.order(0, 0, 0), 1);
        D.due("6: still one order", x.count(5), 1);
        D.due("6: a past visit stays", x.visit(0, 5), 0);
        D.due("6: the one of today is back", x.visit(1, 5), 2);
        D.due("6: one of others stays", x.visit(2, 5), 0);
        D.due("6: it is of this day then", x.lift(0, 0), 0);
        D.due("6: day 400", x.order(0, 1, 400), 0);
        D.due("6: day 401", x.order(0, 1, 401), Due.BAD);
        D.due("6: day -1", x.order(0, 1, -1), Due.BAD);
        D.due("6: prisoner", x.order(1, 1, 0), Due.BAD);
        D.due("6: prisoner -1", x.order(-1, 1, 0), Due.BAD);
        D.due("6: visitor", x.order(0, 3, 0), Due.BAD);
        D.due("6: visitor -1", x.order(0, -1, 0), Due.BAD);
        D.due("6: BAD changes nothing", x.lift(0, 1), 400);
        orderLetsNobody();
    }

    /** An order is not among what makes those who wait be looked at. */
    private static void orderLetsNobody() {
        VisitHall x = withOnePrisoner();
        x.prisoner(0, 1);
        x.rule(0, 1);
        x.list(0, 0, 1);
        x.list(1, 1, 1);
        x.ask(0, 1, 3, 1, 0);
        x.ask(1, 2, 3, 1, 1);
        D.due("6: the one with the table goes", x.order(0, 0, 2), 1);
        D.due("6: the other goes on waiting", x.visit(1, 5), 1);
    }

    private static void lifts() {
        VisitHall x = withOnePrisoner();
        D.due("7: none", x.lift(0, 0), Due.NO);
        x.list(0, 0, 1);
        x.order(0, 0, 7);
        D.due("7: barred", x.ask(0, 1, 7, 1, 1), -13);
        D.due("7: not yet barred", x.ask(0, 1, 6, 1, 0), 0);
        D.due("7: other visitor", x.lift(0, 1), Due.NO);
        D.due("7: prisoner", x.lift(1, 0), Due.BAD);
        D.due("7: prisoner -1", x.lift(-1, 0), Due.BAD);
        D.due("7: visitor", x.lift(0, 3), Due.BAD);
        D.due("7: visitor -1", x.lift(0, -1), Due.BAD);
        D.due("7: lifted", x.lift(0, 0), 7);
        D.due("7: no more", x.lift(0, 0), Due.NO);
        D.due("7: may come", x.ask(0, 1, 7, 1, 0), 1);
        D.due("7: waits", x.ask(0, 1, 7, 1, 1), 2);
        x.order(0, 0, 0);
        D.due("7: lifted again", x.lift(0, 0), 0);
        D.due("7: who waits is let", x.visit(2, 5), 0);
        D.due("7: who was given back is not", x.visit(1, 5), 2);
    }

    private static void rivals() {
        VisitHall x = new VisitHall();
        D.due("8: family -1", x.rivals(-1, 0, 1), Due.BAD);
        D.due("8: family 10", x.rivals(10, 0, 1), Due.BAD);
        D.due("8: other -1", x.rivals(0, -1, 1), Due.BAD);
        D.due("8: other 10", x.rivals(0, 10, 1), Due.BAD);
        D.due("8: its own", x.rivals(4, 4, 0), Due.BAD);
        D.due("8: on 2", x.rivals(0, 1, 2), Due.BAD);
        D.due("8: on -1", x.rivals(0, 1, -1), Due.BAD);
        D.due("8: told", x.rivals(9, 0, 1), 0);
        D.due("8: both ways", x.rivals(0, 9, 1), 1);
        D.due("8: one pair", x.count(8), 1);
        D.due("8: another", x.rivals(9, 1, 1), 0);
        D.due("8: two pairs", x.count(8), 2);
        D.due("8: no more", x.rivals(0, 9, 0), 1);
        D.due("8: both ways no more", x.rivals(9, 0, 0), 0);
        D.due("8: a pair is left", x.count(8), 1);
    }

    private static void moves() {
        VisitHall x = withOnePrisoner();
        x.prisoner(0, 1);
        x.rule(0, 1);
        x.list(0, 0, 1);
        x.list(1, 1, 1);
        x.ask(0, 1, 0, 1, 0);
        x.ask(0, 1, 3, 1, 0);
        x.ask(0, 1, 9, 1, 0);
        x.ask(1, 2, 9, 1, 1);
        x.ask(0, 1, 9, 1, 1);
        x.days(3);
        D.due("9: from today on", x.move(0), 2);
        D.due("9: past stays", x.visit(0, 5), 0);
        D.due("9: today's is back", x.visit(1, 5), 2);
        D.due("9: who waits is let", x.visit(3, 5), 0);
        D.due("9: their own that waits goes on waiting", x.visit(4, 5), 1);
        D.due("9: not here", x.move(0), Due.NO);
        D.due("9: told", x.told(0, 2), 0);
        D.due("9: one is here", x.count(0), 1);
        D.due("9: prisoner 2", x.move(2), Due.BAD);
        D.due("9: prisoner -1", x.move(-1), Due.BAD);
        D.due("9: no more visits", x.ask(0, 1, 9, 1, 1), -11);
        VisitHall y = withOnePrisoner();
        y.list(0, 0, 1);
        y.ask(0, 1, 0, 1, 0);
        D.due("9: from day 0 on", y.move(0), 1);
    }

    private static void told() {
        VisitHall x = new VisitHall();
        x.prisoner(2, 7);
        x.prisoner(3, 9);
        x.visitor(2, 0, 0);
        D.due("10: class", x.told(0, 0), 2);
        D.due("10: class", x.told(1, 0), 3);
        D.due("10: family", x.told(0, 1), 7);
        D.due("10: family", x.told(1, 1), 9);
        D.due("10: here", x.told(0, 2), 1);
        D.due("10: list", x.told(0, 3), 0);
        D.due("10: none let", x.told(0, 4), 0);
        x.ask(0, 1, 0, 1, 0);
        x.ask(0, 1, 1, 1, 0);
        x.ask(1, 1, 1, 11, 0);
        D.due("10: two let", x.told(0, 4), 2);
        x.days(1);
        D.due("10: one from today on", x.told(0, 4), 1);
        D.due("10: the other's", x.told(1, 4), 1);
        D.due("10: what 5", x.told(0, 5), Due.BAD);
        D.due("10: what -1", x.told(0, -1), Due.BAD);
        D.due("10: prisoner 2", x.told(2, 0), Due.BAD);
        D.due("10: prisoner -1", x.told(-1, 0), Due.BAD);
    }

    /** Prisoner 0 of class 0, who may have 9 visits a day, and three plain visitors. */
    private static VisitHall withOnePrisoner() {
        VisitHall x = new VisitHall();
        Due.right(x, 0, "9 in 1");
        x.prisoner(0, 0);
        x.visitor(0, 0, 0);
        x.visitor(0, 0, 0);
        x.visitor(0, 0, 0);
        return x;
    }
}
