/** Promises 11 to 14: the tape and the rights of classes. */
public final class RightsTest {
    private static final Due D = new Due();

    public static void main(String[] args) {
        tape();
        textsThatStand();
        faults();
        actsOnTheTape();
        whoWaits();
        told();
        D.end();
    }

    private static void tape() {
        VisitHall x = new VisitHall();
        for (int n = 12; n <= 60; n += 12) {
            D.due("11: feed", x.feed(-1, 0, 1), n);
        }
        D.due("11: full", x.feed(0, 0, 0), Due.FULL);
        D.due("11: nothing changed", x.count(7), 60);
        D.due("12: more than there is", x.trim(61), Due.BAD);
        D.due("12: below 0", x.trim(-1), Due.BAD);
        D.due("12: all", x.trim(60), 60);
        D.due("12: some", x.trim(49), 49);
        D.due("11: 61 would be too many", x.feed(0, 0, 0), Due.FULL);
        D.due("12: one less", x.trim(48), 48);
        D.due("12: no way back", x.trim(49), Due.BAD);
        D.due("11: 60 are not", x.feed(0, 0, 0), 60);
        D.due("12: none", x.trim(0), 0);
        D.due("11: the highest byte comes first", feedNine(x), 12);
        D.due("12: three bytes", x.trim(8), 8);
        D.due("13: they are read in order", x.right(0), 0);
        D.due("14: N", x.of(0, 0), 12);
        D.due("14: M", x.of(0, 1), 34);
    }

    private static int feedNine(VisitHall x) {
        return x.feed('1' << 24 | '2' << 16 | ' ' << 8 | 'i', 'n' << 24 | ' ' << 16 | '3' << 8 | '4', 0);
    }

    private static void textsThatStand() {
        stands("0 in 1", 0, 1, Due.NONE, 0, 2, 0);
        stands("50 in 60", 50, 60, Due.NONE, 0, 2, 0);
        stands("   5   in 6   ", 5, 6, Due.NONE, 0, 2, 0);
        stands("1 in 2 far 0 and 1", 1, 2, 0, 1, 2, 0);
        stands("1 in 2 far 20 and 9", 1, 2, 20, 9, 2, 0);
        stands("1 in 2 long 1", 1, 2, Due.NONE, 0, 1, 0);
        stands("1 in 2 long 4 not 0", 1, 2, Due.NONE, 0, 4, 1);
        stands("1 in 2 far 3 and 4 not 6", 1, 2, 3, 4, 2, 64);
        stands("1 in 2 not 0 or 1 or 2 or 3 or 4 or 5 or 6", 1, 2, Due.NONE, 0, 2, 127);
        stands("1 in 2 far 3 and 4 long 3 not 2 or 5", 1, 2, 3, 4, 3, 36);
        stands("007 in 0000000000000000000001 long 03", 7, 1, Due.NONE, 0, 3, 0);
    }

    private static void stands(String text, int n, int m, int w, int k, int l, int d) {
        VisitHall x = new VisitHall();
        int[] due = {n, m, w, k, l, d};
        D.due("13: right of " + text, Due.right(x, 1, text), 0);
        for (int what = 0; what < 6; what++) {
            D.due("14: of(1, " + what + ") of " + text, x.of(1, what), due[what]);
        }
        D.due("14: of another class", x.of(0, 0), Due.NO);
    }

    private static void faults() {
        fault("", 0);
        fault("  ", 2);
        fault("x", 0);
        fault("  51 in 3", 2);
        fault("4294967297 in 3", 0);
        fault("10000000000000000000000001 in 3", 0);
        fault("-1 in 3", 0);
        fault("+1 in 3", 0);
        fault("1in 3", 0);
        fault("1", 1);
        fault("1  ", 3);
        fault("1 In 3", 2);
        fault("1 in3", 2);
        fault("1 i", 2);
        fault("1 inn 3", 2);
        fault("1 in", 4);
        fault("1 in ", 5);
        fault("1 in 0", 5);
        fault("1 in 61", 5);
        fault("1 in in", 5);
        fault("1 in :", 5);
        fault("1 in 1:", 5);
        fault("1 in /", 5);
        fault("1 in 3x", 5);
        fault("1 in 3 4", 7);
        fault("1 in 3 fa", 7);
        fault("1 in 3 and", 7);
        fault("1 in 3 or 4", 7);
        fault("1 in 3 far", 10);
        fault("1 in 3 far 21 and 1", 11);
        fault("1 in 3 far 4", 12);
        fault("1 in 3 far 4 or 5", 13);
        fault("1 in 3 far 4 and", 16);
        fault("1 in 3 far 4 and 0", 17);
        fault("1 in 3 far 4 and 10", 17);
        fault("1 in 3 far 4 and 5 far 4 and 5", 19);
        fault("1 in 3 long", 11);
        fault("1 in 3 long 0", 12);
        fault("1 in 3 long 5", 12);
        fault("1 in 3 long 2 long 2", 14);
        fault("1 in 3 long 2 far 2 and 2", 14);
        fault("1 in 3 not", 10);
        fault("1 in 3 not 7", 11);
        fault("1 in 3 not -1", 11);
        fault("1 in 3 not 1 2", 13);
        fault("1 in 3 not 1 and 2", 13);
        fault("1 in 3 not 1 or", 15);
        fault("1 in 3 not 1 or 1", 16);
        fault("1 in 3 not 1 or 0", 16);
        fault("1 in 3 not 6 or 7", 16);
        fault("1 in 3 not 1 long 2", 13);
        fault("1 in 3 not 1 not 2", 13);
        fault("1 in 3\t", 5);
        fault("1\tin 3", 0);
        fault("1 in 3 " + (char) 0, 7);
        fault("1 in " + (char) 178, 5);
        fault((char) 160 + "1 in 3", 0);
        fault("1 in 1 not 0 or 1 or 2 or 3 or 4 or 5 or 6 or", 45);
        fault("1 in 1 not 0 or 1 or 2 or 3 or 4 or 5 or 6 or 6", 46);
        fault("1 in 1                                                     9", 59);
        fault("1 in                                                        ", 60);
    }

    private static void fault(String text, int place) {
        VisitHall x = new VisitHall();
        Due.right(x, 2, "3 in 4");
        D.due("13: right of <" + text + ">", Due.right(x, 2, text), -100 - place);
        D.due("13: the tape is used up", x.count(7), 0);
        D.due("13: the right is as it was", x.of(2, 0), 3);
    }

    private static void actsOnTheTape() {
        VisitHall x = new VisitHall();
        Due.tell(x, "1 in 3");
        D.due("13: class -1", x.right(-1), Due.BAD);
        D.due("13: used up all the same", x.count(7), 0);
        Due.tell(x, "1 on 3");
        D.due("13: class is asked first", x.right(4), Due.BAD);
        D.due("13: used up all the same", x.count(7), 0);
        Due.tell(x, "1 in 3");
        D.due("13: used up", x.right(3), 0);
        D.due("13: used up", x.count(7), 0);
        D.due("13: told anew", Due.right(x, 3, "2 in 3 long 4"), 0);
        D.due("13: told anew", Due.right(x, 3, "4 in 5"), 0);
        D.due("14: N anew", x.of(3, 0), 4);
        D.due("14: L is not kept", x.of(3, 4), 2);
    }

    private static void whoWaits() {
        VisitHall x = new VisitHall();
        x.prisoner(0, 0);
        x.visitor(0, 0, 0);
        x.list(0, 0, 1);
        D.due("13: no text", x.ask(0, 1, 0, 1, 1), -15);
        Due.right(x, 0, "0 in 1");
        D.due("13: none at all", x.ask(0, 1, 0, 1, 0), -16);
        D.due("13: waits", x.ask(0, 1, 0, 1, 1), 0);
        D.due("13: waits", x.ask(0, 1, 1, 1, 1), 1);
        D.due("13: waits", x.ask(0, 1, 2, 1, 1), 2);
        D.due("13: a fault lets nobody", Due.right(x, 0, "2 in 0"), -105);
        D.due("13: for another class", Due.right(x, 1, "2 in 2"), 0);
        D.due("13: two are let", Due.right(x, 0, "1 in 2"), 2);
        D.due("13: the first", x.visit(0, 5), 0);
        D.due("13: the second waits", x.visit(1, 5), 1);
        D.due("13: the third", x.visit(2, 5), 0);
        D.due("13: what was let stays let", Due.right(x, 0, "0 in 9"), 0);
        D.due("13: what was let stays let", x.visit(2, 5), 0);
    }

    private static void told() {
        VisitHall x = new VisitHall();
        D.due("14: class -1", x.of(-1, 0), Due.BAD);
        D.due("14: class 4", x.of(4, 0), Due.BAD);
        D.due("14: what -1", x.of(0, -1), Due.BAD);
        D.due("14: what 6 stands ahead of no text", x.of(0, 6), Due.BAD);
        D.due("14: no text", x.of(0, 5), Due.NO);
    }
}
