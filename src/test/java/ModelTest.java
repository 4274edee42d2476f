import java.nio.charset.StandardCharsets;
import java.util.ArrayList;
import java.util.Arrays;
import java.util.List;
import java.util.Random;
import java.util.TreeMap;

/** All promises: long runs of calls drawn by numbers, each answered by VisitHall and by Model alike. */
public final class ModelTest {
    private static final int RUNS = 1500, CALLS = 512;
    private static final String[] NAMES = {"prisoner", "visitor", "isOf", "list", "order", "lift", "rivals", "move",
        "told", "feed", "trim", "right", "of", "ask", "why", "giveBack", "visit", "rule", "days", "hall", "comes",
        "sheet", "mark", "copy", "lose", "count"};
    private static final int[] HOW_MANY_NUMBERS = {2, 3, 2, 3, 3, 2, 3, 1, 2, 3, 1, 1, 2, 5, 4, 1, 2, 2, 1, 3, 2, 2, 3,
        5, 1, 1};
    private static final String[] WORDS = {"in", "far", "and", "long", "not", "or"};

    private final Random draw;
    private final VisitHall hall = new VisitHall();
    private final Model model = new Model();
    private final List<String> told = new ArrayList<>();
    private final TreeMap<String, Integer> tally;
    /** How far days go in this run: a narrow one makes visits meet. */
    private final int lastDay;
    private int prisoners;
    private boolean wrong;

    private ModelTest(long seed, TreeMap<String, Integer> tally) {
        draw = new Random(seed);
        this.tally = tally;
        lastDay = new int[] {1, 3, 9, 70, 400}[draw.nextInt(5)];
    }

    public static void main(String[] args) {
        TreeMap<String, Integer> tally = new TreeMap<>();
        int wrong = 0;
        for (int run = 0; run < RUNS && wrong < 3; run++) {
            ModelTest test = new ModelTest(run, tally);
            test.run();
            if (test.wrong) {
                wrong++;
                System.out.println("run " + run + ":");
                test.told.forEach(System.out::println);
            }
        }
        System.out.println("asked: " + tally);
        System.out.println(wrong + " runs of " + RUNS + " were not as the model answers");
        if (wrong != 0) {
            System.exit(1);
        }
    }

    private void run() {
        boolean seldomWild = draw.nextInt(4) != 0;
        if (seldomWild) {
            begin();
        }
        while (told.size() < CALLS && !wrong) {
            int turn = draw.nextInt(100);
            if (turn < (seldomWild ? 2 : 30)) {
                wild();
            } else if (turn < 50) {
                ask();
            } else if (turn < 60) {
                tellRight();
            } else {
                other();
            }
            if (draw.nextInt(40) == 0) {
                lookAtAll();
            }
        }
        lookAtAll();
    }

    private void begin() {
        for (int c = 0; c < 4; c++) {
            feedText(text());
            call("right", c);
        }
        int prisoners = 1 + draw.nextInt(10);
        for (int i = 0; i < prisoners; i++) {
            call("prisoner", draw.nextInt(4), family());
        }
        int visitors = 1 + draw.nextInt(14);
        for (int i = 0; i < visitors; i++) {
            call("visitor", draw.nextInt(4), family(), draw.nextInt(21));
        }
        for (int p = 0; p < prisoners; p++) {
            for (int v = 0; v < visitors; v++) {
                if (draw.nextInt(5) != 0) {
                    call("list", p, v, 1);
                }
            }
        }
    }

    private void wild() {
        int which = draw.nextInt(NAMES.length);
        int[] n = new int[HOW_MANY_NUMBERS[which]];
        for (int i = 0; i < n.length; i++) {
            n[i] = switch (draw.nextInt(6)) {
                case 0 -> draw.nextInt();
                case 1 -> draw.nextInt(500) - 20;
                case 2 -> new int[] {Integer.MIN_VALUE, Integer.MAX_VALUE, -1}[draw.nextInt(3)];
                default -> draw.nextInt(17) - 1;
            };
        }
        call(NAMES[which], n);
    }

    private int day() {
        int day = hall.count(6) + draw.nextInt(lastDay + 1);
        return draw.nextInt(50) == 0 ? draw.nextInt(403) - 1 : Math.min(day, 400);
    }

    private int prisoner() {
        return draw.nextInt(Math.max(1, prisoners + (draw.nextInt(50) == 0 ? 1 : 0)));
    }

    private int visitor() {
        return draw.nextInt(14);
    }

    private int family() {
        return draw.nextInt(draw.nextInt(4) == 0 ? 10 : 3);
    }

    /** One to three of those who may come, but now and then anybody. */
    private int set(int prisoner) {
        int lawyers = 0;
        for (int v = 0; v < 14; v++) {
            lawyers |= hall.isOf(v, 2) == 1 ? 1 << v : 0;
        }
        int listed = Math.max(0, hall.told(prisoner, 3));
        int from = switch (draw.nextInt(12)) {
            case 0 -> (1 << hall.count(1)) - 1;
            case 1, 2, 3 -> lawyers;
            default -> listed | lawyers;
        };
        int set = 0;
        int most = 1 + draw.nextInt(3);
        for (int tries = 0; tries < 40 && Integer.bitCount(set) < most; tries++) {
            set |= from & 1 << draw.nextInt(14);
        }
        return set;
    }

    private int halves() {
        int many = 1 + draw.nextInt(draw.nextInt(3) == 0 ? 5 : 2);
        return 10 * draw.nextInt(draw.nextInt(4) == 0 ? 13 : 5) + many;
    }

    private void ask() {
        int p = prisoner();
        int set = set(p);
        int day = day();
        int halves = halves();
        if (draw.nextInt(3) == 0) {
            call("why", p, set, day, halves);
        }
        if (draw.nextInt(6) != 0) {
            call("ask", p, set, day, halves, draw.nextInt(4) == 0 ? 0 : 1);
        }
    }

    private void other() {
        switch (draw.nextInt(24)) {
            case 0, 1 -> call("list", prisoner(), visitor(), draw.nextInt(4) == 0 ? 0 : 1);
            case 2 -> call("order", prisoner(), visitor(), day());
            case 3, 4 -> call("lift", prisoner(), visitor());
            case 5, 6 -> call("rivals", family(), family(), draw.nextInt(2));
            case 7 -> {
                if (draw.nextInt(6) == 0) {
                    call("move", prisoner());
                }
            }
            case 8 -> call("told", prisoner(), draw.nextInt(5));
            case 9, 10, 11 -> call("giveBack", draw.nextInt(Math.max(1, hall.count(2) + 1)));
            case 12 -> call("visit", draw.nextInt(101), draw.nextInt(8));
            case 13, 14 -> call("rule", 0, 1 + draw.nextInt(1 + draw.nextInt(6)));
            case 15 -> call("rule", 1 + draw.nextInt(2), draw.nextInt(102));
            case 16 -> {
                if (draw.nextInt(6) == 0) {
                    call("days", 1 + draw.nextInt(Math.max(2, Math.min(lastDay, 60))));
                }
            }
            case 17 -> call("hall", day(), draw.nextInt(12), draw.nextInt(2));
            case 18 -> call("comes", day(), draw.nextInt(2));
            case 19 -> call("sheet", draw.nextInt(2), draw.nextInt(lastDay < 60 ? lastDay + 2 : 62));
            case 20 -> call("mark", draw.nextInt(2), draw.nextInt(lastDay + 2), draw.nextInt(9) - 1);
            case 21 -> call("copy", draw.nextInt(2), draw.nextInt(5), draw.nextInt(2), draw.nextInt(5),
                draw.nextInt(7) - 1);
            case 22 -> call("lose", draw.nextInt(2));
            default -> {
                if (draw.nextBoolean()) {
                    call("prisoner", draw.nextInt(4), family());
                } else {
                    call("visitor", draw.nextInt(4), family(), draw.nextInt(21));
                }
            }
        }
    }

    private void tellRight() {
        String text = text();
        if (draw.nextInt(3) == 0) {
            text = spoilt(text);
        }
        feedText(text);
        call("right", draw.nextInt(20) == 0 ? 4 : draw.nextInt(4));
    }

    private String text() {
        StringBuilder s = new StringBuilder();
        s.append(draw.nextInt(draw.nextInt(3) == 0 ? 51 : 5)).append(" in ");
        s.append(1 + draw.nextInt(draw.nextInt(3) == 0 ? 60 : 7));
        if (draw.nextInt(2) == 0) {
            s.append(" far ").append(draw.nextInt(21)).append(" and ").append(1 + draw.nextInt(9));
        }
        if (draw.nextInt(2) == 0) {
            s.append(" long ").append(1 + draw.nextInt(4));
        }
        String before = " not ";
        for (int d = 0; d < 7 && draw.nextInt(3) != 0; d++) {
            if (draw.nextInt(6) == 0) {
                s.append(before).append(d);
                before = " or ";
            }
        }
        return s.toString();
    }

    private String spoilt(String text) {
        List<String> words = new ArrayList<>(Arrays.asList(text.split(" ")));
        int at = draw.nextInt(words.size());
        switch (draw.nextInt(6)) {
            case 0 -> words.remove(at);
            case 1 -> words.set(at, WORDS[draw.nextInt(6)]);
            case 2 -> words.set(at, String.valueOf(draw.nextInt(70)));
            case 3 -> words.add(at, draw.nextBoolean() ? "" : "x");
            case 4 -> words.add(draw.nextBoolean() ? "" : "or 6");
            default -> {
                String all = String.join(" ", words);
                return all.substring(0, draw.nextInt(all.length() + 1));
            }
        }
        return String.join(" ", words);
    }

    private void feedText(String text) {
        byte[] b = text.getBytes(StandardCharsets.ISO_8859_1);
        byte[] padded = Arrays.copyOf(b, (b.length + 11) / 12 * 12);
        int had = hall.count(7);
        for (int i = 0; i < padded.length; i += 12) {
            java.nio.ByteBuffer twelve = java.nio.ByteBuffer.wrap(padded, i, 12);
            call("feed", twelve.getInt(), twelve.getInt(), twelve.getInt());
        }
        call("trim", had + b.length);
    }

    private void lookAtAll() {
        for (int what = 0; what <= 8; what++) {
            same("count(" + what + ")", hall.count(what), model.count(what));
        }
        for (int v = 0; v < 100; v++) {
            same("visit(" + v + ", 5)", hall.visit(v, 5), model.visit(v, 5));
        }
        for (int p = 0; p < 10; p++) {
            for (int what = 0; what < 5; what++) {
                same("told(" + p + ", " + what + ")", hall.told(p, what), model.told(p, what));
            }
        }
        int today = hall.count(6);
        for (int day = Math.max(0, today - 2); day < today + 4; day++) {
            for (int half = 0; half < 12; half++) {
                same("hall(" + day + ", " + half + ", 1)", hall.hall(day, half, 1), model.hall(day, half, 1));
            }
            same("comes(" + day + ", 1)", hall.comes(day, 1), model.comes(day, 1));
        }
        for (int c = 0; c < 4; c++) {
            for (int what = 0; what < 6; what++) {
                same("of(" + c + ", " + what + ")", hall.of(c, what), model.of(c, what));
            }
        }
    }

    private void same(String call, int got, int want) {
        if (got != want && !wrong) {
            wrong = true;
            told.add(call + " answered " + got + ", the model answers " + want);
        }
    }

    private void call(String name, int... n) {
        if (wrong) {
            return;
        }
        String call = name + Arrays.toString(n).replace('[', '(').replace(']', ')');
        int got = answer(hall, name, n);
        int want = answer(model, name, n);
        told.add(call + " = " + got);
        prisoners += name.equals("prisoner") && got >= 0 ? 1 : 0;
        if (name.equals("ask") || name.equals("why")) {
            tally.merge(name + (got >= 0 && name.equals("ask") ? " number" : " " + got), 1, Integer::sum);
        }
        same(call, got, want);
    }

    private static int answer(Object who, String name, int[] n) {
        try {
            Class<?>[] types = new Class<?>[n.length];
            Arrays.fill(types, int.class);
            return (Integer) who.getClass().getDeclaredMethod(name, types)
                .invoke(who, Arrays.stream(n).boxed().toArray());
        } catch (ReflectiveOperationException e) {
            throw new IllegalStateException(name + Arrays.toString(n), e);
        }
    }
}
