import java.nio.charset.StandardCharsets;
import java.util.Arrays;

/** What the tests share: one test's tally of answers that are not as due, and texts put on the tape. */
final class Due {
    static final int BAD = VisitHall.BAD, NO = VisitHall.NO, FULL = VisitHall.FULL, NONE = VisitHall.NONE;
    static final int NOTHING = VisitHall.NOTHING, INDEX = VisitHall.INDEX, SIZE = VisitHall.SIZE;

    private int wrong;
    private int asked;

    void due(String call, long got, long want) {
        asked++;
        if (got != want) {
            wrong++;
            System.out.println(call + " answered " + got + ", due is " + want);
        }
    }

    void due(String call, String got, String want) {
        asked++;
        if (!got.equals(want)) {
            wrong++;
            System.out.println(call + " answered " + got + ", due is " + want);
        }
    }

    /** Ends the program with exit code 1 if one answer was not as due. */
    void end() {
        System.out.println(asked - wrong + " answers as due, " + wrong + " not");
        if (wrong != 0 || asked == 0) {
            System.exit(1);
        }
    }

    /** Puts a text on the tape behind what is there, as far as it has room. */
    static void tell(VisitHall x, String text) {
        byte[] bytes = text.getBytes(StandardCharsets.ISO_8859_1);
        int had = x.count(7);
        byte[] padded = Arrays.copyOf(bytes, (bytes.length + 11) / 12 * 12);
        for (int i = 0; i < padded.length; i += 12) {
            x.feed(number(padded, i), number(padded, i + 4), number(padded, i + 8));
        }
        x.trim(had + bytes.length);
    }

    static int right(VisitHall x, int aClass, String text) {
        tell(x, text);
        return x.right(aClass);
    }

    /** So many prisoners of class 0 and families 0, 1 .., each with a plain visitor of the same number on the list. */
    static VisitHall open(String right, int people) {
        VisitHall x = new VisitHall();
        right(x, 0, right);
        for (int i = 0; i < people; i++) {
            x.prisoner(0, i);
            x.visitor(0, i, 0);
            x.list(i, i, 1);
        }
        return x;
    }

    /** The states of the first visits, one digit each: 0 LET, 1 WAITS, 2 GIVEN BACK. */
    static String states(VisitHall x, int visits) {
        StringBuilder s = new StringBuilder();
        for (int v = 0; v < visits; v++) {
            s.append(x.visit(v, 5));
        }
        return s.toString();
    }

    private static int number(byte[] b, int i) {
        return (b[i] & 255) << 24 | (b[i + 1] & 255) << 16 | (b[i + 2] & 255) << 8 | b[i + 3] & 255;
    }
}
