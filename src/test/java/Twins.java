import java.util.ArrayList;
import java.util.List;
import java.util.function.Supplier;
import java.util.function.ToIntFunction;

/**
 * Two halls made alike, and one call made on one of them: if it changes nothing, all that is asked of both behind it
 * is answered alike. There are several lookings, each with two halls of its own, as some of what is told can only be
 * asked for by changing it, and as a hall is good for 512 calls.
 */
final class Twins {
    private static final int PRISONERS = 10, VISITORS = 14, VISITS = 8, DAYS = 8, PLACES = 60;

    private final Due due;
    private final String scene;
    private final Supplier<VisitHall> maker;

    Twins(Due due, String scene, Supplier<VisitHall> maker) {
        this.due = due;
        this.scene = scene;
        this.maker = maker;
    }

    /** The call answers this, and changes nothing. */
    void same(String call, ToIntFunction<VisitHall> made, int answer) {
        for (int looking = 0; looking < 4; looking++) {
            VisitHall without = maker.get();
            VisitHall with = maker.get();
            due.due(scene + call, made.applyAsInt(with), answer);
            due.due(scene + call + " changes nothing, looking " + looking,
                answers(with, looking).toString(), answers(without, looking).toString());
        }
    }

    private static List<Integer> answers(VisitHall x, int looking) {
        List<Integer> all = new ArrayList<>();
        switch (looking) {
            case 0 -> peopleAndVisits(x, all);
            case 1 -> daysAndRights(x, all);
            case 2 -> ordersRivalsRules(x, all);
            default -> sheetsAndTape(x, all);
        }
        return all;
    }

    private static void peopleAndVisits(VisitHall x, List<Integer> all) {
        for (int what = 0; what <= 8; what++) {
            all.add(x.count(what));
        }
        for (int p = 0; p < PRISONERS; p++) {
            for (int what = 0; what < 5; what++) {
                all.add(x.told(p, what));
            }
        }
        for (int v = 0; v < VISITORS; v++) {
            for (int kind = 0; kind < 4; kind++) {
                all.add(x.isOf(v, kind));
            }
        }
        for (int v = 0; v < VISITS; v++) {
            for (int what = 0; what < 7; what++) {
                all.add(x.visit(v, what));
            }
        }
    }

    private static void daysAndRights(VisitHall x, List<Integer> all) {
        for (int day = 0; day < DAYS; day++) {
            for (int half = 0; half < 12; half++) {
                all.add(x.hall(day, half, 0));
                all.add(x.hall(day, half, 1));
            }
            all.add(x.comes(day, 0));
            all.add(x.comes(day, 1));
        }
        for (int c = 0; c < 4; c++) {
            for (int what = 0; what < 6; what++) {
                all.add(x.of(c, what));
            }
        }
    }

    private static void ordersRivalsRules(VisitHall x, List<Integer> all) {
        for (int p = 0; p < PRISONERS; p++) {
            for (int v = 0; v < VISITORS; v++) {
                all.add(x.lift(p, v));
            }
        }
        for (int f = 0; f < 10; f++) {
            for (int g = f + 1; g < 10; g++) {
                all.add(x.rivals(f, g, 0));
            }
        }
        all.add(x.rule(0, 6));
        all.add(x.rule(1, 1));
        all.add(x.rule(2, 0));
        for (int v = 0; v < VISITS; v++) {
            all.add(x.visit(v, 5));
        }
    }

    private static void sheetsAndTape(VisitHall x, List<Integer> all) {
        all.add(x.right(3));
        for (int what = 0; what < 6; what++) {
            all.add(x.of(3, what));
        }
        for (int s = 0; s < 2; s++) {
            for (int place = 0; place <= PLACES; place++) {
                all.add(x.mark(s, place, 0));
            }
            all.add(x.lose(s));
        }
    }
}
