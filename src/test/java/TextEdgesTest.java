/** The edges of the document's part 2 and of promises 11 to 14, sentence by sentence: the tape, the text, the right. */
public final class TextEdgesTest {
    private static final String ALL_WEEKDAYS = "1 in 1 not 0 or 1 or 2 or 3 or 4 or 5 or 6";
    private static final Due D = new Due();

    public static void main(String[] args) {
        tapeOfSixty();
        highestByteFirst();
        trimKeepsTheFirst();
        readUsesUp();
        blanksBetween();
        blanksAreByte32();
        digitsAlone();
        wordsAreWhole();
        rangeOfEachNumber();
        numbersThatWrap();
        weekdaysRise();
        partsThatMayMiss();
        partsOutOfPlace();
        endTooSoon();
        firstFaultIsTold();
        textOfSixtyBytes();
        whatIsNotTold();
        rightOfEachClass();
        nVisits();
        mDays();
        mDaysAtTheEnds();
        kMore();
        wayOfWOrMore();
        lHalves();
        weekdaysOfTheRight();
        noText();
        D.end();
    }

    private static void reads(String text, int n, int m, int w, int k, int l, int d) {
        VisitHall x = new VisitHall();
        D.due("13: right of <" + text + ">", Due.right(x, 0, text), 0);
        int[] due = {n, m, w, k, l, d};
        for (int what = 0; what < 6; what++) {
            D.due("14: of(0, " + what + ") of <" + text + ">", x.of(0, what), due[what]);
        }
    }

    private static void plain(String text, int n, int m) {
        reads(text, n, m, Due.NONE, 0, 2, 0);
    }

    /** Over a right that was there, so that one that is half read shows. */
    private static void fault(String text, int place) {
        VisitHall x = new VisitHall();
        Due.right(x, 0, "7 in 8 far 9 and 6 long 3 not 5");
        D.due("13: right of <" + text + ">", Due.right(x, 0, text), -100 - place);
        int[] was = {7, 8, 9, 6, 3, 32};
        for (int what = 0; what < 6; what++) {
            D.due("14: of(0, " + what + ") behind <" + text + ">", x.of(0, what), was[what]);
        }
        D.due("13: the tape behind <" + text + ">", x.count(7), 0);
    }

    /** "THE TAPE (60 bytes at most ..)", "FULL: it would have more than 60". */
    private static void tapeOfSixty() {
        for (int had = 0; had <= 60; had++) {
            VisitHall x = new VisitHall();
            for (int i = 0; i < 5; i++) {
                D.due("11: feed", x.feed(0, 0, 0), 12 * i + 12);
            }
            D.due("11: feed behind 60", x.feed(0, 0, 0), Due.FULL);
            D.due("12: trim", x.trim(had), had);
            D.due("11: feed behind " + had, x.feed(0, 0, 0), had <= 48 ? had + 12 : Due.FULL);
            D.due("27: bytes", x.count(7), had <= 48 ? had + 12 : had);
        }
    }

    /** "Twelve bytes come to THE TAPE, the highest of each number first", also of numbers below 0. */
    private static void highestByteFirst() {
        VisitHall x = new VisitHall();
        D.due("11: feed", x.feed(0x31322069, 0x6e203334, 0x20206e6f), 12);
        D.due("11: feed", x.feed(0x74202036, 0xa0ffffff, 0x80000000), 24);
        D.due("12: trim", x.trim(16), 16);
        D.due("13: right", x.right(0), 0);
        D.due("14: N", x.of(0, 0), 12);
        D.due("14: M", x.of(0, 1), 34);
        D.due("14: D", x.of(0, 5), 64);
        for (int at = 0; at < 12; at++) {
            int[] n = {0x20202020, 0x20202020, 0x20202020};
            n[at / 4] ^= 0xdf << 24 - at % 4 * 8;
            D.due("11: feed", x.feed(n[0], n[1], n[2]), 12);
            D.due("13: byte 255 at place " + at, x.right(0), -100 - at);
        }
    }

    /** "THE TAPE keeps its first n bytes: n. BAD." */
    private static void trimKeepsTheFirst() {
        VisitHall x = new VisitHall();
        D.due("12: nothing of nothing", x.trim(0), 0);
        D.due("12: one of nothing", x.trim(1), Due.BAD);
        Due.tell(x, "12 in 34");
        D.due("12: -1", x.trim(-1), Due.BAD);
        D.due("12: one more than there is", x.trim(9), Due.BAD);
        D.due("12: all", x.trim(8), 8);
        D.due("12: one less", x.trim(7), 7);
        D.due("12: what is cut is gone", x.trim(8), Due.BAD);
        D.due("27: seven", x.count(7), 7);
        D.due("13: the first seven", x.right(0), 0);
        D.due("14: N", x.of(0, 0), 12);
        D.due("14: M", x.of(0, 1), 3);
        Due.tell(x, "1 in 2");
        x.trim(5);
        Due.tell(x, "9");
        x.right(0);
        D.due("11: what comes stands behind what is kept", x.of(0, 1), 9);
    }

    /** "an act that reads it uses it up, whatever it answers". */
    private static void readUsesUp() {
        VisitHall x = new VisitHall();
        int[] classes = {0, -1, 4, Integer.MIN_VALUE, Integer.MAX_VALUE};
        for (int c : classes) {
            for (String text : new String[] {"1 in 1", "1 on 1", "1 in", "", "                "}) {
                Due.tell(x, text);
                D.due("27: bytes of <" + text + ">", x.count(7), text.length());
                x.right(c);
                D.due("13: used up by right(" + c + ") of <" + text + ">", x.count(7), 0);
            }
        }
        Due.tell(x, "5 in 6");
        x.of(0, 0);
        x.count(7);
        x.trim(6);
        D.due("13: what does not read it leaves it", x.right(1), 0);
        D.due("14: N", x.of(1, 0), 5);
        D.due("13: read again it is empty", x.right(1), -100);
    }

    /** "with blanks .. between, one or more, none needed at the ends". */
    private static void blanksBetween() {
        plain("3 in 4", 3, 4);
        plain(" 3 in 4", 3, 4);
        plain("3 in 4 ", 3, 4);
        plain("   3   in    4     ", 3, 4);
        reads("  3 in  4   far 5 and  6 long   3 not 0  or    1  ", 3, 4, 5, 6, 3, 3);
        fault("3in 4", 0);
        fault("3 in4", 2);
        fault("3 in 4far 5 and 6", 5);
        fault("3 in 4 far5 and 6", 7);
        fault("3 in 4 long3", 7);
        fault("3 in 4 not3", 7);
    }

    /** "blanks (byte 32)": every other byte belongs to a word. */
    private static void blanksAreByte32() {
        for (int b = 0; b < 256; b++) {
            if (b == 32) {
                plain("3 in 4" + (char) b, 3, 4);
                plain((char) b + "3 in 4", 3, 4);
                plain("3" + (char) b + "in 4", 3, 4);
            } else {
                boolean digit = b >= '0' && b <= '9';
                fault("3" + (char) b + "in 4", 0);
                fault("3 in 4 " + (char) b, 7);
                if (!digit) {
                    fault((char) b + "3 in 4", 0);
                    fault("3 in 4" + (char) b, 5);
                }
            }
        }
    }

    /** "NUMBERS (digits alone)": each byte as the whole of a number, and as its second sign. */
    private static void digitsAlone() {
        for (int b = 0; b < 256; b++) {
            if (b == 32) {
                continue;
            }
            if (b >= '0' && b <= '9') {
                plain((char) b + " in 60", b - '0', 60);
                plain("1 in 2" + (char) b, 1, 20 + b - '0');
            } else {
                fault((char) b + " in 60", 0);
                fault("1 in 2" + (char) b, 5);
                fault("1 in 2 not " + (char) b, 11);
            }
        }
        fault("-0 in 1", 0);
        fault("+1 in 1", 0);
        fault("1 in 0x1", 5);
        fault("1. in 1", 0);
        plain("00 in 01", 0, 1);
        plain("0000000000000000000000000050 in 0000000000000000000000000060", 50, 60);
    }

    /** "a WORD is all bytes up to the next blank": one that is shorter, longer or spelled otherwise is none of ours. */
    private static void wordsAreWhole() {
        String[][] texts = {{"3 ", "in", " 4"}, {"3 in 4 ", "far", " 5 and 6"}, {"3 in 4 far 5 ", "and", " 6"},
            {"3 in 4 ", "long", " 3"}, {"3 in 4 ", "not", " 3"}, {"3 in 4 not 3 ", "or", " 5"}};
        for (String[] t : texts) {
            String word = t[1];
            D.due("13: " + word, Due.right(new VisitHall(), 0, t[0] + word + t[2]), 0);
            fault(t[0] + word.substring(1) + t[2], t[0].length());
            fault(t[0] + word.substring(0, word.length() - 1) + t[2], t[0].length());
            fault(t[0] + word + word.charAt(0) + t[2], t[0].length());
            fault(t[0] + word + (char) 0 + t[2], t[0].length());
            fault(t[0] + word.toUpperCase() + t[2], t[0].length());
            for (int i = 0; i < word.length(); i++) {
                char[] other = word.toCharArray();
                other[i]++;
                fault(t[0] + new String(other) + t[2], t[0].length());
                other[i] += 127;
                fault(t[0] + new String(other) + t[2], t[0].length());
            }
        }
    }

    /** "N 0 .. 50, M 1 .. 60, W 0 .. 20, K 1 .. 9, L 1 .. 4, D 0 .. 6": every number up to 1200 in each place. */
    private static void rangeOfEachNumber() {
        for (int n = 0; n <= 1200; n++) {
            ranged("", n, " in 1", 0, 50, 0);
            ranged("1 in ", n, "", 1, 60, 1);
            ranged("1 in 1 far ", n, " and 1", 0, 20, 2);
            ranged("1 in 1 far 1 and ", n, "", 1, 9, 3);
            ranged("1 in 1 long ", n, "", 1, 4, 4);
            ranged("1 in 1 not ", n, "", 0, 6, 5);
        }
    }

    private static void ranged(String ahead, int n, String behind, int least, int most, int what) {
        VisitHall x = new VisitHall();
        boolean stands = n >= least && n <= most;
        String text = ahead + n + behind;
        D.due("13: right of <" + text + ">", Due.right(x, 0, text), stands ? 0 : -100 - ahead.length());
        D.due("14: of <" + text + ">", x.of(0, what), !stands ? Due.NO : what == 5 ? 1 << n : n);
    }

    /** Numbers that an int or a long would wrap to one that may stand. */
    private static void numbersThatWrap() {
        for (String one : new String[] {"4294967297", "8589934593", "18446744073709551617", "2147483649", "-4294967295",
            "340282366920938463463374607431768211457", "10000000000000000000000000000000000001"}) {
            fault(one + " in 1", 0);
            fault("1 in " + one, 5);
            fault("1 in 1 far " + one, 11);
            fault("1 in 1 far 1 and " + one, 17);
            fault("1 in 1 long " + one, 12);
            fault("1 in 1 not " + one, 11);
            fault("1 in 1 not 0 or " + one, 16);
        }
        fault("1000000000000000000000000000000000000000000000000000000 in 1", 0);
        fault("1 in 4294967296000000000000000000000000000000000000000000001", 5);
    }

    /** "D 0 .. 6 (each above the one ahead)": all pairs, and some three. */
    private static void weekdaysRise() {
        for (int d = 0; d <= 7; d++) {
            for (int e = 0; e <= 7; e++) {
                String text = "1 in 1 not " + d + " or " + e;
                if (d == 7) {
                    fault(text, 11);
                } else if (e <= d || e == 7) {
                    fault(text, 16);
                } else {
                    reads(text, 1, 1, Due.NONE, 0, 2, 1 << d | 1 << e);
                }
            }
        }
        reads("1 in 1 not 0 or 3 or 6", 1, 1, Due.NONE, 0, 2, 73);
        fault("1 in 1 not 0 or 3 or 3", 21);
        fault("1 in 1 not 3 or 4 or 3", 21);
        fault("1 in 1 not 2 or 4 or 3", 21);
        reads(ALL_WEEKDAYS, 1, 1, Due.NONE, 0, 2, 127);
        fault(ALL_WEEKDAYS + " or 7", 46);
        fault(ALL_WEEKDAYS + " or", 45);
        fault(ALL_WEEKDAYS + " 7", 43);
    }

    /** "N in M [ far W and K ] [ long L ] [ not D [ or D ].. ]": with and without each part. */
    private static void partsThatMayMiss() {
        for (int parts = 0; parts < 8; parts++) {
            boolean far = (parts & 1) != 0;
            boolean lasts = (parts & 2) != 0;
            boolean not = (parts & 4) != 0;
            String text = "2 in 3" + (far ? " far 4 and 5" : "") + (lasts ? " long 3" : "") + (not ? " not 1 or 6" : "");
            reads(text, 2, 3, far ? 4 : Due.NONE, far ? 5 : 0, lasts ? 3 : 2, not ? 66 : 0);
        }
    }

    /** "what can't stand where it is": each part a second time, and each ahead of one that must stand ahead of it. */
    private static void partsOutOfPlace() {
        String[] parts = {"far 4 and 5", "long 3", "not 1"};
        for (int i = 0; i < 3; i++) {
            for (int j = 0; j <= i; j++) {
                String ahead = "2 in 3 " + parts[i] + " ";
                fault(ahead + parts[j], ahead.length());
            }
        }
        for (String word : new String[] {"in", "and", "or", "3", "x"}) {
            fault("2 in 3 " + word, 7);
            fault("2 in 3 far 4 and 5 " + word, 19);
            fault("2 in 3 long 3 " + word, 14);
            if (!word.equals("or")) {
                fault("2 in 3 not 1 " + word, 13);
            }
        }
        for (String word : new String[] {"in", "far", "and", "long", "not", "or"}) {
            fault(word + " 2 in 3", 0);
            fault("2 in " + word, 5);
            fault("2 in 3 far " + word, 11);
            fault("2 in 3 far 4 and " + word, 17);
            fault("2 in 3 long " + word, 12);
            fault("2 in 3 not " + word, 11);
            fault("2 in 3 not 1 or " + word, 16);
            if (!word.equals("in")) {
                fault("2 " + word + " 3", 2);
            }
            if (!word.equals("and")) {
                fault("2 in 3 far 4 " + word + " 5", 13);
            }
        }
    }

    /** "the end, if it comes too soon (the place behind the last byte on THE TAPE)": cut everywhere, blanks or not. */
    private static void endTooSoon() {
        String[] whole = {"2", "in", "3", "far", "4", "and", "5", "long", "3", "not", "1", "or", "6"};
        boolean[] mayEnd = {false, false, true, false, false, false, true, false, true, false, true, false, true};
        fault("", 0);
        fault(" ", 1);
        fault("                                                            ", 60);
        StringBuilder text = new StringBuilder();
        for (int i = 0; i < whole.length; i++) {
            text.append(whole[i]);
            for (String blanks : new String[] {"", " ", "    "}) {
                String cut = text + blanks;
                if (mayEnd[i]) {
                    D.due("13: <" + cut + ">", Due.right(new VisitHall(), 0, cut), 0);
                } else {
                    fault(cut, cut.length());
                }
            }
            text.append(' ');
        }
    }

    /** "The first one is told." */
    private static void firstFaultIsTold() {
        fault("51 on 61 x", 0);
        fault("50 on 61 x", 3);
        fault("50 in 61 x", 6);
        fault("50 in 60 x y", 9);
        fault("1 in 1 far 21 and 10", 11);
        fault("1 in 1 far 20 or 10", 14);
        fault("1 in 1 far 20 and 10 long 5", 18);
        fault("1 in 1 far 20 and 9 long 5 not 7", 25);
        fault("1 in 1 far 20 and 9 long 4 not 7 or 0", 31);
        fault("1 in 1 far 20 and 9 long 4 not 6 or 0 or", 36);
        fault("51", 0);
        fault("1 in 0", 5);
    }

    /** A text may fill the tape: its last byte counts, too. */
    private static void textOfSixtyBytes() {
        String full = "  1 in 1 far 1 and 1  not 0 or 1 or 2  or 3 or 4 or 5 or   6";
        D.due("sixty bytes", full.length(), 60);
        reads(full, 1, 1, 1, 1, 2, 127);
        fault(full.substring(0, 59) + "7", 59);
        fault(full.substring(0, 59) + " ", 60);
        plain("                                                      1 in 1", 1, 1);
        plain("1 in 1                                                      ", 1, 1);
        fault("1 in 1                                                     x", 59);
    }

    /** "2 W (NONE), 3 K (0)", "(2, if not told)": what the text does not tell, also where an earlier one did. */
    private static void whatIsNotTold() {
        VisitHall x = new VisitHall();
        Due.right(x, 2, "9 in 9 far 9 and 9 long 4 not 0 or 6");
        int[] full = {9, 9, 9, 9, 4, 65};
        int[] bare = {1, 2, Due.NONE, 0, 2, 0};
        for (int what = 0; what < 6; what++) {
            D.due("14: told, what " + what, x.of(2, what), full[what]);
        }
        Due.right(x, 2, "1 in 2");
        for (int what = 0; what < 6; what++) {
            D.due("14: not told, what " + what, x.of(2, what), bare[what]);
        }
        Due.right(x, 2, "0 in 1 far 0 and 1");
        D.due("14: W 0 is told", x.of(2, 2), 0);
        D.due("14: N 0 is told", x.of(2, 0), 0);
    }

    /** A right of each class, from the first to the last, and of no other. */
    private static void rightOfEachClass() {
        for (int c = -1; c <= 4; c++) {
            VisitHall x = new VisitHall();
            boolean is = c >= 0 && c <= 3;
            D.due("13: class " + c, Due.right(x, c, "4 in 5"), is ? 0 : Due.BAD);
            for (int other = 0; other < 4; other++) {
                D.due("14: class " + other + " behind " + c, x.of(other, 0), other == c ? 4 : Due.NO);
            }
            D.due("14: class -1", x.of(-1, 0), Due.BAD);
            D.due("14: class 4", x.of(4, 0), Due.BAD);
        }
    }

    /** "N VISITS": from none to fifty; the next one is refused for 6. */
    private static void nVisits() {
        for (int n : new int[] {0, 1, 2, 9, 49, 50}) {
            VisitHall x = Due.open(n + " in 60", 1);
            for (int i = 0; i < n; i++) {
                D.due("visit " + i + " of " + n, x.ask(0, 1, i, 1, 0), i);
            }
            D.due("one more than " + n, x.ask(0, 1, n, 1, 0), -16);
            D.due("one more than " + n, x.ask(0, 1, 0, 11, 0), -16);
            D.due("one more than " + n + ", behind all", x.why(0, 1, n + 59, 1), n == 0 ? 6 : 0);
        }
    }

    /** "in any M DAYS one behind the other": a visit counts M - 1 days to either side, for every M. */
    private static void mDays() {
        for (int m = 1; m <= 60; m++) {
            VisitHall x = Due.open("1 in " + m, 1);
            x.ask(0, 1, 100, 1, 0);
            for (int apart : new int[] {-m - 1, -m, 1 - m, 0, m - 1, m, m + 1}) {
                D.due("1 in " + m + ", " + apart + " days apart", x.why(0, 1, 100 + apart, 11),
                    Math.abs(apart) < m ? 6 : 0);
            }
            Due.right(x, 0, "2 in " + m);
            x.ask(0, 1, 100 + m - 1, 21, 0);
            D.due("2 in " + m + ", with both", x.why(0, 1, 100, 31), 6);
            D.due("2 in " + m + ", with both", x.why(0, 1, 100 + m - 1, 31), 6);
            D.due("2 in " + m + ", with the first alone", x.why(0, 1, 99, 31), 0);
            D.due("2 in " + m + ", with the second alone", x.why(0, 1, 100 + m, 31), 0);
        }
    }

    /** The first and the last days: where M days would reach beyond 0 .. 400, what is there counts. */
    private static void mDaysAtTheEnds() {
        VisitHall x = Due.open("1 in 60", 1);
        x.ask(0, 1, 0, 1, 0);
        x.ask(0, 1, 400, 1, 0);
        int[] days = {0, 1, 59, 60, 340, 341, 399, 400};
        int[] due = {6, 6, 6, 0, 0, 6, 6, 6};
        for (int i = 0; i < days.length; i++) {
            D.due("1 in 60, on day " + days[i], x.why(0, 1, days[i], 11), due[i]);
        }
    }

    /** "K more of these, if one of the VISITORS .. has a WAY of W or more": from 1 to 9 more, and no more. */
    private static void kMore() {
        for (int k = 1; k <= 9; k++) {
            for (int n = 0; n <= 2; n++) {
                VisitHall x = new VisitHall();
                Due.right(x, 0, n + " in 60 far 5 and " + k);
                x.prisoner(0, 0);
                x.visitor(0, 0, 4);
                x.visitor(0, 0, 5);
                x.list(0, 0, 1);
                x.list(0, 1, 1);
                for (int i = 0; i < n + k; i++) {
                    D.due("near, with " + i + " of " + n, x.why(0, 1, i, 1), i < n ? 0 : 6);
                    D.due("far, with " + i + " of " + n + " and " + k, x.ask(0, 2, i, 1, 0), i);
                }
                D.due("far, with all of " + n + " and " + k, x.ask(0, 2, n + k, 1, 0), -16);
                D.due("near and far, with all", x.ask(0, 3, n + k, 1, 0), -16);
            }
        }
    }

    /** "a WAY of W or more": one less, W itself, one more; one visitor of the visit is enough. */
    private static void wayOfWOrMore() {
        for (int w = 0; w <= 20; w++) {
            VisitHall x = new VisitHall();
            Due.right(x, 0, "0 in 1 far " + w + " and 1");
            x.prisoner(0, 0);
            int[] ways = {Math.max(0, w - 1), w, Math.min(20, w + 1), 0, 20};
            for (int i = 0; i < ways.length; i++) {
                x.visitor(0, 0, ways[i]);
                x.list(0, i, 1);
            }
            for (int i = 0; i < ways.length; i++) {
                D.due("way " + ways[i] + ", far " + w, x.why(0, 1 << i, 0, 1), ways[i] >= w ? 0 : 6);
            }
            D.due("one of three, far " + w, x.why(0, 1 | 2 | 8, 0, 1), 0);
            D.due("none of two, far " + w, x.why(0, 1 | 8, 0, 1), w == 0 ? 0 : 6);
        }
    }

    /** "a VISIT lasts L HALVES at most (2, if not told)". */
    private static void lHalves() {
        for (int l = 0; l <= 4; l++) {
            VisitHall x = Due.open(l == 0 ? "9 in 1" : "9 in 1 long " + l, 1);
            for (int many = 1; many <= 4; many++) {
                D.due("long " + l + ", " + many + " halves", x.why(0, 1, 0, many), many > (l == 0 ? 2 : l) ? 5 : 0);
            }
        }
    }

    /** "none on WEEKDAYS D": each set of them. */
    private static void weekdaysOfTheRight() {
        for (int bits = 0; bits < 128; bits++) {
            StringBuilder text = new StringBuilder("9 in 1");
            String before = " not ";
            for (int d = 0; d < 7; d++) {
                if ((bits >> d & 1) == 1) {
                    text.append(before).append(d);
                    before = " or ";
                }
            }
            VisitHall x = Due.open(text.toString(), 1);
            D.due("14: D of " + text, x.of(0, 5), bits);
            for (int day = 0; day < 7; day++) {
                D.due(text + " on day " + day, x.why(0, 1, 14 + day, 1), (bits >> day & 1) == 1 ? 5 : 0);
            }
        }
    }

    /** "Without a TEXT a CLASS has none: no VISITS but those of LAWYERS alone." */
    private static void noText() {
        VisitHall x = new VisitHall();
        for (int c = 0; c < 4; c++) {
            x.prisoner(c, 0);
        }
        for (int kind = 0; kind < 4; kind++) {
            x.visitor(kind, 0, 20);
        }
        x.visitor(2, 0, 0);
        for (int c = 0; c < 4; c++) {
            for (int v = 0; v < 5; v++) {
                x.list(c, v, 1);
            }
            D.due("a visitor, class " + c, x.ask(c, 1, 0, 1, 1), -15);
            D.due("kin, class " + c, x.ask(c, 2, 0, 1, 1), -15);
            D.due("kin and child, class " + c, x.ask(c, 10, 0, 1, 1), -15);
            D.due("a visitor and a lawyer, class " + c, x.ask(c, 5, 0, 1, 1), -15);
            D.due("two lawyers and a visitor, class " + c, x.ask(c, 21, 0, 1, 1), -15);
            D.due("a lawyer, class " + c, x.why(c, 4, 0, 4), 0);
            D.due("two lawyers, class " + c, x.why(c, 20, 0, 4), 0);
        }
        Due.right(x, 2, "0 in 1");
        D.due("a text that gives none", x.why(2, 1, 0, 1), 6);
    }
}
