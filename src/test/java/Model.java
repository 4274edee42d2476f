import java.util.ArrayList;
import java.util.HashMap;
import java.util.List;
import java.util.Map;
import java.util.TreeMap;
import java.util.TreeSet;
import java.util.regex.Matcher;
import java.util.regex.Pattern;

/**
 * The document once more, in the slowest and most literal way, so that a slip in VisitHall shows as a difference.
 */
final class Model {
    private static final int LET = 0, WAITS = 1, BACK = 2;

    private record Person(int a, int family, int way) { }

    private static final class V {
        int prisoner, day, first, many, state;
        TreeSet<Integer> visitors = new TreeSet<>();

        TreeSet<Integer> halves() {
            TreeSet<Integer> all = new TreeSet<>();
            for (int h = first; h < first + many; h++) {
                all.add(h);
            }
            return all;
        }
    }

    private final List<Person> prisoners = new ArrayList<>();
    private final List<Person> visitors = new ArrayList<>();
    private final TreeSet<Integer> moved = new TreeSet<>();
    private final TreeSet<String> lists = new TreeSet<>();
    private final Map<String, Integer> orders = new TreeMap<>();
    private final TreeSet<String> rivals = new TreeSet<>();
    private final Map<Integer, Map<String, Integer>> rights = new HashMap<>();
    private final List<V> visits = new ArrayList<>();
    private final int[][] sheets = new int[2][];
    private StringBuilder tape = new StringBuilder();
    private int today, tables = 3, oneIn = 4, seed;

    private static boolean in(int v, int low, int high) {
        return low <= v && v <= high;
    }

    private static String pair(int a, int b) {
        return a + "-" + b;
    }

    private boolean isP(int p) {
        return in(p, 0, prisoners.size() - 1);
    }

    private boolean isV(int v) {
        return in(v, 0, visitors.size() - 1);
    }

    private boolean kind(int visitor, int kind) {
        int own = visitors.get(visitor).a;
        return kind == 0 || own == kind || kind == 1 && own == 3;
    }

    int prisoner(int aClass, int family) {
        if (!in(aClass, 0, 3) || !in(family, 0, 9)) return Due.BAD;
        if (prisoners.size() == 10) return Due.FULL;
        prisoners.add(new Person(aClass, family, 0));
        return prisoners.size() - 1;
    }

    int visitor(int kind, int family, int way) {
        if (!in(kind, 0, 3) || !in(family, 0, 9) || !in(way, 0, 20)) return Due.BAD;
        if (visitors.size() == 14) return Due.FULL;
        visitors.add(new Person(kind, family, way));
        return visitors.size() - 1;
    }

    int isOf(int visitor, int kind) {
        if (!isV(visitor) || !in(kind, 0, 3)) return Due.BAD;
        return kind(visitor, kind) ? 1 : 0;
    }

    int list(int p, int v, int on) {
        if (!isP(p) || !isV(v) || !in(on, 0, 1)) return Due.BAD;
        boolean was = on == 1 ? !lists.add(pair(p, v)) : lists.remove(pair(p, v));
        return was ? 1 : 0;
    }

    int order(int p, int v, int day) {
        if (!isP(p) || !isV(v) || !in(day, 0, 400)) return Due.BAD;
        orders.put(pair(p, v), day);
        int n = 0;
        for (V x : visits) {
            if (x.state == LET && x.prisoner == p && x.visitors.contains(v) && x.day >= Math.max(day, today)) {
                x.state = BACK;
                n++;
            }
        }
        return n;
    }

    int lift(int p, int v) {
        if (!isP(p) || !isV(v)) return Due.BAD;
        Integer was = orders.remove(pair(p, v));
        if (was == null) return Due.NO;
        look();
        return was;
    }

    int rivals(int f, int g, int on) {
        if (!in(f, 0, 9) || !in(g, 0, 9) || f == g || !in(on, 0, 1)) return Due.BAD;
        String pair = pair(Math.min(f, g), Math.max(f, g));
        boolean was = on == 1 ? !rivals.add(pair) : rivals.remove(pair);
        look();
        return was ? 1 : 0;
    }

    int move(int p) {
        if (!isP(p)) return Due.BAD;
        if (!moved.add(p)) return Due.NO;
        int n = 0;
        for (V x : visits) {
            if (x.state == LET && x.prisoner == p && x.day >= today) {
                x.state = BACK;
                n++;
            }
        }
        look();
        return n;
    }

    int told(int p, int what) {
        if (!isP(p) || !in(what, 0, 4)) return Due.BAD;
        if (what == 0) return prisoners.get(p).a;
        if (what == 1) return prisoners.get(p).family;
        if (what == 2) return moved.contains(p) ? 0 : 1;
        int n = 0;
        if (what == 3) {
            for (int v = 0; v < visitors.size(); v++) if (lists.contains(pair(p, v))) n += 1 << v;
        } else {
            for (V x : visits) if (x.prisoner == p && x.state == LET && x.day >= today) n++;
        }
        return n;
    }

    int feed(int a, int b, int c) {
        if (tape.length() > 48) return Due.FULL;
        for (int number : new int[] {a, b, c}) {
            for (int i = 3; i >= 0; i--) tape.append((char) (number >>> 8 * i & 255));
        }
        return tape.length();
    }

    int trim(int n) {
        if (!in(n, 0, tape.length())) return Due.BAD;
        tape.setLength(n);
        return n;
    }

    int right(int aClass) {
        String text = tape.toString();
        tape = new StringBuilder();
        if (!in(aClass, 0, 3)) return Due.BAD;
        Map<String, Integer> right = new HashMap<>();
        int fault = read(text, right);
        if (fault >= 0) return -100 - fault;
        rights.put(aClass, right);
        return look();
    }

    /** Reads by what may come next: each step names the words that may follow it. */
    private static int read(String text, Map<String, Integer> right) {
        right.put("K", 0);
        right.put("L", 2);
        right.put("D", 0);
        String may = "N";
        int lastD = -1;
        Matcher words = Pattern.compile("[^ ]+", Pattern.DOTALL).matcher(text);
        while (words.find()) {
            String word = words.group();
            if (may.matches("[NMWKLD]")) {
                int[] range = switch (may.charAt(0)) {
                    case 'N' -> new int[] {0, 50};
                    case 'M' -> new int[] {1, 60};
                    case 'W' -> new int[] {0, 20};
                    case 'K' -> new int[] {1, 9};
                    case 'L' -> new int[] {1, 4};
                    default -> new int[] {lastD + 1, 6};
                };
                if (!word.matches("[0-9]+")) return words.start();
                java.math.BigInteger big = new java.math.BigInteger(word);
                if (big.bitLength() > 20 || !in(big.intValue(), range[0], range[1])) return words.start();
                int value = big.intValue();
                if (may.equals("D")) {
                    lastD = value;
                    value = right.get("D") + (1 << value);
                }
                right.put(may, value);
                may = switch (may.charAt(0)) {
                    case 'N' -> "in";
                    case 'M' -> "far|long|not|";
                    case 'W' -> "and";
                    case 'K' -> "long|not|";
                    case 'L' -> "not|";
                    default -> "or|";
                };
            } else {
                if (!List.of(may.split("[|]")).contains(word)) return words.start();
                may = switch (word) {
                    case "in" -> "M";
                    case "far" -> "W";
                    case "and" -> "K";
                    case "long" -> "L";
                    default -> "D";
                };
            }
        }
        return may.endsWith("|") ? -1 : text.length();
    }

    int of(int aClass, int what) {
        if (!in(aClass, 0, 3) || !in(what, 0, 5)) return Due.BAD;
        if (!rights.containsKey(aClass)) return Due.NO;
        return rights.get(aClass).getOrDefault("NMWKLD".substring(what, what + 1), Due.NONE);
    }

    private V made(int p, int set, int day, int halves) {
        if (!isP(p) || halves < 0 || !in(day, today, 400)) return null;
        V x = new V();
        for (int i = 0; i < 32; i++) {
            if ((set & 1 << i) != 0) x.visitors.add(i);
        }
        x.prisoner = p;
        x.day = day;
        x.first = halves / 10;
        x.many = halves - 10 * x.first;
        x.state = -1;
        if (!in(x.visitors.size(), 1, 3) || !isV(x.visitors.last())) return null;
        if (!in(x.many, 1, 4) || x.first > 12 - x.many) return null;
        return x;
    }

    int ask(int p, int set, int day, int halves, int wait) {
        V x = made(p, set, day, halves);
        if (x == null || !in(wait, 0, 1)) return Due.BAD;
        if (visits.size() == 100) return Due.FULL;
        List<V> leave = new ArrayList<>();
        int reason = reason(x, leave);
        if (reason != 0 && (wait == 0 || reason < 6)) return -10 - reason;
        x.state = reason == 0 ? LET : WAITS;
        for (V y : leave) y.state = WAITS;
        visits.add(x);
        return visits.size() - 1;
    }

    int why(int p, int set, int day, int halves) {
        V x = made(p, set, day, halves);
        return x == null ? Due.BAD : reason(x, new ArrayList<>());
    }

    private boolean lawyers(V x) {
        return x.visitors.stream().allMatch(v -> kind(v, 2));
    }

    private int tablesOn(int day) {
        if (sheets[0] == null || day >= sheets[0].length) return tables;
        return in(sheets[0][day], 0, 6) ? sheets[0][day] : 0;
    }

    private List<V> letAt(int day, int half) {
        return visits.stream().filter(y -> y.state == LET && y.day == day && y.halves().contains(half)).toList();
    }

    private static boolean meet(V x, V y) {
        TreeSet<Integer> both = x.halves();
        both.retainAll(y.halves());
        return x.day == y.day && !both.isEmpty();
    }

    private int reason(V x, List<V> leave) {
        Person p = prisoners.get(x.prisoner);
        if (moved.contains(x.prisoner)) return 1;
        for (int v : x.visitors) if (!kind(v, 2) && !lists.contains(pair(x.prisoner, v))) return 2;
        for (int v : x.visitors) if (orders.getOrDefault(pair(x.prisoner, v), 9999) <= x.day) return 3;
        boolean child = x.visitors.stream().anyMatch(v -> kind(v, 3));
        boolean grown = x.visitors.stream().anyMatch(v -> kind(v, 1) && !kind(v, 3));
        if (child && !grown) return 4;
        if (!lawyers(x)) {
            Map<String, Integer> right = rights.get(p.a);
            if (right == null || (right.get("D") & 1 << x.day % 7) != 0 || x.many > right.get("L")) return 5;
            int given = right.get("N");
            if (right.containsKey("W") && x.visitors.stream().anyMatch(v -> visitors.get(v).way >= right.get("W"))) {
                given += right.get("K");
            }
            for (int from = x.day - right.get("M") + 1; from <= x.day; from++) {
                int n = 1;
                for (V y : visits) {
                    if (y.state == LET && !lawyers(y) && y.prisoner == x.prisoner
                            && in(y.day, from, from + right.get("M") - 1)) n++;
                }
                if (n > given) return 6;
            }
        }
        List<V> met = visits.stream().filter(y -> y.state == LET && meet(x, y)).toList();
        for (V y : met) {
            if (y.prisoner == x.prisoner || y.visitors.stream().anyMatch(x.visitors::contains)) return 7;
        }
        for (V y : met) {
            int f = p.family, g = prisoners.get(y.prisoner).family;
            if (rivals.contains(pair(Math.min(f, g), Math.max(f, g)))) return 8;
        }
        boolean full = x.halves().stream().anyMatch(h -> letAt(x.day, h).size() >= tablesOn(x.day));
        if (!full) return 0;
        return lawyers(x) && takes(x, leave) ? 0 : 9;
    }

    private boolean takes(V x, List<V> leave) {
        for (int h : x.halves()) {
            List<V> there = new ArrayList<>(letAt(x.day, h));
            there.removeAll(leave);
            while (there.size() >= tablesOn(x.day)) {
                V last = null;
                for (V y : there) if (!lawyers(y)) last = y;
                if (last == null) {
                    leave.clear();
                    return false;
                }
                there.remove(last);
                leave.add(last);
            }
        }
        return true;
    }

    private int look() {
        int n = 0;
        for (V x : visits) {
            List<V> leave = new ArrayList<>();
            if (x.state == WAITS && x.day >= today && reason(x, leave) == 0) {
                for (V y : leave) y.state = WAITS;
                x.state = LET;
                n++;
            }
        }
        return n;
    }

    int giveBack(int visit) {
        if (!in(visit, 0, visits.size() - 1)) return Due.BAD;
        V x = visits.get(visit);
        if (x.state == BACK || x.day < today) return Due.NO;
        x.state = BACK;
        return look();
    }

    int visit(int visit, int what) {
        if (!in(visit, 0, visits.size() - 1) || !in(what, 0, 6)) return Due.BAD;
        V x = visits.get(visit);
        int bits = x.visitors.stream().mapToInt(v -> 1 << v).sum();
        return new int[] {x.prisoner, bits, x.day, x.first, x.many, x.state, lawyers(x) ? 1 : 0}[what];
    }

    int rule(int which, int v) {
        if (!in(which, 0, 2) || which == 0 && !in(v, 1, 6) || which == 1 && !in(v, 1, 100)) return Due.BAD;
        int was = new int[] {tables, oneIn, seed}[which];
        if (which == 0) {
            tables = v;
            look();
        } else if (which == 1) {
            oneIn = v;
        } else {
            seed = v;
        }
        return was;
    }

    int days(int n) {
        if (!in(n, 1, 60) || today > 400 - n) return Due.BAD;
        today += n;
        return today;
    }

    int hall(int day, int half, int what) {
        if (!in(day, 0, 400) || !in(half, 0, 11) || !in(what, 0, 1)) return Due.BAD;
        int let = letAt(day, half).size();
        return what == 0 ? let : Math.max(0, tablesOn(day) - let);
    }

    int comes(int day, int what) {
        if (!in(day, 0, 400) || !in(what, 0, 1)) return Due.BAD;
        List<Integer> all = new ArrayList<>();
        for (V x : visits) {
            if (x.state != LET || x.day != day) continue;
            for (int v : x.visitors) if (!all.contains(v)) all.add(v);
        }
        int bits = 0;
        int w = seed + day;
        for (int v : all) {
            w = w * 1664525 + 1013904223;
            if (what == 0 || !kind(v, 3) && w >>> 8 < 16777216 / oneIn) bits |= 1 << v;
        }
        return bits;
    }

    int sheet(int s, int n) {
        if (!in(s, 0, 1) || n > 60) return Due.BAD;
        if (n < 0) return Due.SIZE;
        sheets[s] = new int[n];
        return n;
    }

    int mark(int s, int place, int v) {
        if (!in(s, 0, 1)) return Due.BAD;
        if (sheets[s] == null) return Due.NOTHING;
        if (!in(place, 0, sheets[s].length - 1)) return Due.INDEX;
        int was = sheets[s][place];
        sheets[s][place] = (byte) v;
        return was;
    }

    int copy(int from, int place, int to, int at, int many) {
        if (!in(from, 0, 1) || !in(to, 0, 1)) return Due.BAD;
        if (sheets[from] == null || sheets[to] == null) return Due.NOTHING;
        if (many < 0 || place < 0 || at < 0) return Due.INDEX;
        if ((long) place + many > sheets[from].length || (long) at + many > sheets[to].length) return Due.INDEX;
        int[] were = sheets[from].clone();
        for (int i = 0; i < many; i++) sheets[to][at + i] = were[place + i];
        return many;
    }

    int lose(int s) {
        if (!in(s, 0, 1)) return Due.BAD;
        if (sheets[s] == null) return Due.NOTHING;
        int had = sheets[s].length;
        sheets[s] = null;
        return had;
    }

    int count(int what) {
        return switch (what) {
            case 0 -> prisoners.size() - moved.size();
            case 1 -> visitors.size();
            case 2 -> visits.size();
            case 3 -> (int) visits.stream().filter(x -> x.state == LET).count();
            case 4 -> (int) visits.stream().filter(x -> x.state == WAITS).count();
            case 5 -> orders.size();
            case 6 -> today;
            case 7 -> tape.length();
            case 8 -> rivals.size();
            default -> Due.BAD;
        };
    }
}
