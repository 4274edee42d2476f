import java.util.Arrays;

/**
 * Hours in which prisoners may be visited. The document's promises stand as the public methods, in its order; they
 * test what they are told and leave the rest to the classes inside.
 */
public final class VisitHall {
    public static final int BAD = -1000000001, NO = -1000000002, FULL = -1000000003, NONE = -1000000005,
            NOTHING = -1000000011, INDEX = -1000000013, SIZE = -1000000014;

    private static final int CLASSES = 4, FAMILIES = 10, KINDS = 4, FARTHEST_WAY = 20;
    private static final int LAST_DAY = 400, WEEK = 7, HALVES = 12, LONGEST_VISIT = 4, MOST_TOGETHER = 3;
    private static final int LET = 0, WAITS = 1, GIVEN_BACK = 2;
    private static final int SHEETS = 2, MOST_TABLES = 6, MOST_ONE_IN = 100, MOST_DAYS_AT_ONCE = 60;

    private final People people;
    private final Tape tape;
    private final RightReader reader;
    private final Right[] rights;
    private final Book book;
    private final Sheet[] sheets;
    private final Gate gate;
    private final Searches searches;
    /** The visit that is asked about; one row serves all calls till a visit is numbered and keeps it. */
    private Visit asked;

    public VisitHall() {
        people = new People();
        tape = new Tape();
        reader = new RightReader(tape);
        rights = new Right[CLASSES];
        book = new Book();
        sheets = new Sheet[SHEETS];
        for (int s = 0; s < SHEETS; s++) {
            sheets[s] = new Sheet();
        }
        gate = new Gate(people, rights, book, sheets[0]);
        searches = new Searches();
        asked = new Visit();
    }

    // ---- people

    public int prisoner(int aClass, int family) {
        if (!isBelow(aClass, CLASSES) || !isBelow(family, FAMILIES)) {
            return BAD;
        }
        return people.addPrisoner(aClass, family);
    }

    public int visitor(int kind, int family, int way) {
        if (!isBelow(kind, KINDS) || !isBelow(family, FAMILIES) || !isBelow(way, FARTHEST_WAY + 1)) {
            return BAD;
        }
        // no promise asks for a visitor's family again, so it is only tested
        return people.addVisitor(kind, way);
    }

    public int isOf(int visitor, int kind) {
        if (!people.isVisitor(visitor) || !isBelow(kind, KINDS)) {
            return BAD;
        }
        return people.ofKind(kind) >> visitor & 1;
    }

    public int list(int prisoner, int visitor, int on) {
        Prisoner p = people.prisonerAt(prisoner);
        if (p == null || !people.isVisitor(visitor) || !isBelow(on, 2)) {
            return BAD;
        }
        int was = p.listed >> visitor & 1;
        p.listed = withBit(p.listed, visitor, on);
        return was;
    }

    public int order(int prisoner, int visitor, int day) {
        Prisoner p = people.prisonerAt(prisoner);
        if (p == null || !people.isVisitor(visitor) || !isBelow(day, LAST_DAY + 1)) {
            return BAD;
        }
        p.barFrom(visitor, day);
        return book.giveBackAll(prisoner, 1 << visitor, day);
    }

    public int lift(int prisoner, int visitor) {
        Prisoner p = people.prisonerAt(prisoner);
        if (p == null || !people.isVisitor(visitor)) {
            return BAD;
        }
        int from = p.barredFrom(visitor);
        if (from == Prisoner.NEVER) {
            return NO;
        }
        p.barFrom(visitor, Prisoner.NEVER);
        gate.letWaiting();
        return from;
    }

    public int rivals(int family, int other, int on) {
        if (!isBelow(family, FAMILIES) || !isBelow(other, FAMILIES) || family == other || !isBelow(on, 2)) {
            return BAD;
        }
        int was = people.areRivals(family, other) ? 1 : 0;
        people.setRivals(family, other, on);
        gate.letWaiting();
        return was;
    }

    public int move(int prisoner) {
        Prisoner p = people.prisonerAt(prisoner);
        if (p == null) {
            return BAD;
        }
        if (!p.here) {
            return NO;
        }
        p.here = false;
        int back = book.giveBackAll(prisoner, -1, 0);
        gate.letWaiting();
        return back;
    }

    public int told(int prisoner, int what) {
        Prisoner p = people.prisonerAt(prisoner);
        if (p == null) {
            return BAD;
        }
        switch (what) {
            case 0: return p.aClass;
            case 1: return p.family;
            case 2: return p.here ? 1 : 0;
            case 3: return p.listed;
            case 4: return book.letAhead(prisoner);
            default: return BAD;
        }
    }

    // ---- rights

    public int feed(int a, int b, int c) {
        if (!tape.hasRoom()) {
            return FULL;
        }
        tape.add(a);
        tape.add(b);
        tape.add(c);
        return tape.size;
    }

    public int trim(int n) {
        if (n < 0 || n > tape.size) {
            return BAD;
        }
        tape.size = n;
        return n;
    }

    public int right(int aClass) {
        if (!isBelow(aClass, CLASSES)) {
            tape.size = 0;
            return BAD;
        }
        Right told = reader.read();
        tape.size = 0;
        if (reader.hasFault()) {
            return -100 - reader.fault;
        }
        rights[aClass] = told;
        return gate.letWaiting();
    }

    public int of(int aClass, int what) {
        if (!isBelow(aClass, CLASSES) || !isBelow(what, 6)) {
            return BAD;
        }
        Right right = rights[aClass];
        if (right == null) {
            return NO;
        }
        switch (what) {
            case 0: return right.visits;
            case 1: return right.span;
            case 2: return right.far;
            case 3: return right.more;
            case 4: return right.longest;
            default: return right.closed;
        }
    }

    // ---- visits

    public int ask(int prisoner, int set, int day, int halves, int wait) {
        if (!canBeAsked(prisoner, set, day, halves) || !isBelow(wait, 2)) {
            return BAD;
        }
        if (book.isFull()) {
            return FULL;
        }
        asked.fill(prisoner, set, day, halves, people.areLawyers(set));
        int reason = gate.reason(asked);
        if (reason == 0) {
            gate.admit(asked);
        } else if (wait == 1 && reason >= Gate.FIRST_THAT_WAITS) {
            asked.state = WAITS;
        } else {
            return -10 - reason;
        }
        int number = book.enter(asked);
        asked = new Visit();
        return number;
    }

    public int why(int prisoner, int set, int day, int halves) {
        if (!canBeAsked(prisoner, set, day, halves)) {
            return BAD;
        }
        asked.fill(prisoner, set, day, halves, people.areLawyers(set));
        return gate.reason(asked);
    }

    public int giveBack(int visit) {
        Visit v = book.at(visit);
        if (v == null) {
            return BAD;
        }
        if (v.state == GIVEN_BACK || v.day < book.today) {
            return NO;
        }
        v.state = GIVEN_BACK;
        return gate.letWaiting();
    }

    public int visit(int visit, int what) {
        Visit v = book.at(visit);
        if (v == null) {
            return BAD;
        }
        switch (what) {
            case 0: return v.prisoner;
            case 1: return v.visitors;
            case 2: return v.day;
            case 3: return v.first;
            case 4: return v.many;
            case 5: return v.state;
            case 6: return v.lawyers ? 1 : 0;
            default: return BAD;
        }
    }

    public int rule(int which, int v) {
        if (!mayRule(which, v)) {
            return BAD;
        }
        int was;
        switch (which) {
            case 0:
                was = gate.tables;
                gate.tables = v;
                gate.letWaiting();
                return was;
            case 1:
                was = searches.oneIn;
                searches.oneIn = v;
                return was;
            default:
                was = searches.seed;
                searches.seed = v;
                return was;
        }
    }

    // ---- days

    public int days(int n) {
        if (n < 1 || n > MOST_DAYS_AT_ONCE || book.today + n > LAST_DAY) {
            return BAD;
        }
        book.today += n;
        return book.today;
    }

    public int hall(int day, int half, int what) {
        if (!isBelow(day, LAST_DAY + 1) || !isBelow(half, HALVES) || !isBelow(what, 2)) {
            return BAD;
        }
        int let = book.letAt(day, half);
        return what == 0 ? let : Math.max(0, gate.tablesOn(day) - let);
    }

    public int comes(int day, int what) {
        if (!isBelow(day, LAST_DAY + 1) || !isBelow(what, 2)) {
            return BAD;
        }
        searches.draw(book, people, day);
        return what == 0 ? searches.come : searches.searched;
    }

    // ---- sheets

    public int sheet(int s, int n) {
        if (!isBelow(s, SHEETS) || n > Sheet.MOST_PLACES) {
            return BAD;
        }
        if (n < 0) {
            return SIZE;
        }
        sheets[s].clear(n);
        return n;
    }

    public int mark(int s, int place, int v) {
        if (!isBelow(s, SHEETS)) {
            return BAD;
        }
        Sheet sheet = sheets[s];
        if (sheet.isMissing()) {
            return NOTHING;
        }
        if (!sheet.has(place)) {
            return INDEX;
        }
        int was = sheet.places[place];
        sheet.places[place] = (byte) v;
        return was;
    }

    public int copy(int from, int place, int to, int at, int many) {
        if (!isBelow(from, SHEETS) || !isBelow(to, SHEETS)) {
            return BAD;
        }
        Sheet source = sheets[from];
        Sheet target = sheets[to];
        if (source.isMissing() || target.isMissing()) {
            return NOTHING;
        }
        if (!source.hasRun(place, many) || !target.hasRun(at, many)) {
            return INDEX;
        }
        System.arraycopy(source.places, place, target.places, at, many);
        return many;
    }

    public int lose(int s) {
        if (!isBelow(s, SHEETS)) {
            return BAD;
        }
        Sheet sheet = sheets[s];
        if (sheet.isMissing()) {
            return NOTHING;
        }
        int had = sheet.size;
        sheet.size = Sheet.MISSING;
        return had;
    }

    public int count(int what) {
        switch (what) {
            case 0: return people.prisonersHere();
            case 1: return people.visitorCount;
            case 2: return book.size;
            case 3: return book.inState(LET);
            case 4: return book.inState(WAITS);
            case 5: return people.orderCount();
            case 6: return book.today;
            case 7: return tape.size;
            case 8: return people.rivalPairs();
            default: return BAD;
        }
    }

    // ---- what the calls share

    private static boolean isBelow(int v, int bound) {
        return v >= 0 && v < bound;
    }

    private static int withBit(int bits, int place, int on) {
        return on == 1 ? bits | 1 << place : bits & ~(1 << place);
    }

    private boolean canBeAsked(int prisoner, int set, int day, int halves) {
        return people.prisonerAt(prisoner) != null && people.isParty(set)
                && day >= book.today && day <= LAST_DAY && areHalves(halves);
    }

    private static boolean areHalves(int halves) {
        if (halves < 0) {
            return false;
        }
        int first = halves / 10;
        int many = halves % 10;
        return many >= 1 && many <= LONGEST_VISIT && first < HALVES && first + many <= HALVES;
    }

    private static boolean mayRule(int which, int v) {
        switch (which) {
            case 0: return v >= 1 && v <= MOST_TABLES;
            case 1: return v >= 1 && v <= MOST_ONE_IN;
            default: return which == 2;
        }
    }

    /** Those whom the hall knows: prisoners, visitors, and the families that are rivals. Sets of visitors are bits. */
    private static final class People {
        private static final int MOST_PRISONERS = 10, MOST_VISITORS = 14;
        private static final int ANY = 0, KIN = 1, LAWYER = 2, CHILD = 3;

        private final Prisoner[] prisoners = new Prisoner[MOST_PRISONERS];
        private int prisonerCount;
        private final int[] bitsOfKind = new int[KINDS];
        private final int[] ways = new int[MOST_VISITORS];
        private int visitorCount;
        private final int[] rivalBits = new int[FAMILIES];

        int addPrisoner(int aClass, int family) {
            if (prisonerCount >= MOST_PRISONERS) {
                return FULL;
            }
            prisoners[prisonerCount] = new Prisoner(aClass, family);
            return prisonerCount++;
        }

        Prisoner prisonerAt(int number) {
            return isBelow(number, prisonerCount) ? prisoners[number] : null;
        }

        int addVisitor(int kind, int way) {
            if (visitorCount >= MOST_VISITORS) {
                return FULL;
            }
            int bit = 1 << visitorCount;
            bitsOfKind[ANY] |= bit;
            bitsOfKind[kind] |= bit;
            if (kind == CHILD) {
                bitsOfKind[KIN] |= bit;
            }
            ways[visitorCount] = way;
            return visitorCount++;
        }

        boolean isVisitor(int number) {
            return isBelow(number, visitorCount);
        }

        int ofKind(int kind) {
            return isBelow(kind, KINDS) ? bitsOfKind[kind] : 0;
        }

        boolean isParty(int set) {
            int together = Integer.bitCount(set);
            return (set & ~bitsOfKind[ANY]) == 0 && together >= 1 && together <= MOST_TOGETHER;
        }

        boolean areLawyers(int set) {
            return (set & ~bitsOfKind[LAWYER]) == 0;
        }

        boolean needsKin(int set) {
            return (set & bitsOfKind[CHILD]) != 0 && (set & bitsOfKind[KIN] & ~bitsOfKind[CHILD]) == 0;
        }

        boolean areListed(Prisoner p, int set) {
            return (set & ~p.listed & ~bitsOfKind[LAWYER]) == 0;
        }

        boolean isChild(int visitor) {
            return (bitsOfKind[CHILD] >> visitor & 1) == 1;
        }

        boolean comesFrom(int set, int way) {
            for (int v = 0; v < visitorCount; v++) {
                if ((set >> v & 1) == 1 && ways[v] >= way) {
                    return true;
                }
            }
            return false;
        }

        boolean areRivals(int family, int other) {
            return (rivalBits[family] >> other & 1) == 1;
        }

        void setRivals(int family, int other, int on) {
            rivalBits[family] = withBit(rivalBits[family], other, on);
            rivalBits[other] = withBit(rivalBits[other], family, on);
        }

        int rivalPairs() {
            int bits = 0;
            for (int f = 0; f < FAMILIES; f++) {
                bits += Integer.bitCount(rivalBits[f]);
            }
            return bits / 2;
        }

        int prisonersHere() {
            int here = 0;
            for (int p = 0; p < prisonerCount; p++) {
                here += prisoners[p].here ? 1 : 0;
            }
            return here;
        }

        int orderCount() {
            int orders = 0;
            for (int p = 0; p < prisonerCount; p++) {
                orders += prisoners[p].ordersThere();
            }
            return orders;
        }
    }

    /** One prisoner, with their list and the orders that bar visitors from them. */
    private static final class Prisoner {
        /** Behind every day, so that an order that is not there bars on none. */
        private static final int NEVER = LAST_DAY + 1;

        private final int aClass;
        private final int family;
        private boolean here = true;
        private int listed;
        private final int[] orders = new int[People.MOST_VISITORS];

        Prisoner(int aClass, int family) {
            this.aClass = aClass;
            this.family = family;
            Arrays.fill(orders, NEVER);
        }

        int barredFrom(int visitor) {
            return isBelow(visitor, orders.length) ? orders[visitor] : NEVER;
        }

        void barFrom(int visitor, int day) {
            if (isBelow(visitor, orders.length)) {
                orders[visitor] = day;
            }
        }

        boolean isBarred(int set, int day) {
            for (int v = 0; v < orders.length; v++) {
                if ((set >> v & 1) == 1 && orders[v] <= day) {
                    return true;
                }
            }
            return false;
        }

        int ordersThere() {
            int there = 0;
            for (int v = 0; v < orders.length; v++) {
                there += orders[v] == NEVER ? 0 : 1;
            }
            return there;
        }
    }

    /** The bytes of a text that is still to be read. */
    private static final class Tape {
        private static final int MOST_BYTES = 60, BYTES_AT_ONCE = 12;

        private final byte[] bytes = new byte[MOST_BYTES];
        private int size;

        boolean hasRoom() {
            return size + BYTES_AT_ONCE <= MOST_BYTES;
        }

        void add(int number) {
            for (int shift = 24; shift >= 0 && size < MOST_BYTES; shift -= 8) {
                bytes[size] = (byte) (number >> shift);
                size++;
            }
        }
    }

    /** What a class may have. */
    private static final class Right {
        private int visits;
        private int span;
        private int far = NONE;
        private int more;
        private int longest = 2;
        private int closed;

        boolean allows(Visit v) {
            return (closed >> v.day % WEEK & 1) == 0 && v.many <= longest;
        }

        int gives(boolean fromFar) {
            return fromFar ? visits + more : visits;
        }
    }

    /** Reads the tape as a right, word by word; behind the first fault it reads nothing more. */
    private static final class RightReader {
        private static final int BLANK = 32, SOUND = -1, NOT_A_NUMBER = -1, FAR_TOO_MUCH = 1000;
        private static final int MOST_VISITS = 50, LONGEST_SPAN = 60, MOST_MORE = 9, LAST_WEEKDAY = WEEK - 1;

        private final Tape tape;
        /** The word that is looked at: its first byte, and the place behind it; both the tape's end if there is none. */
        private int start;
        private int end;
        private int fault = SOUND;

        RightReader(Tape tape) {
            this.tape = tape;
        }

        boolean hasFault() {
            return fault != SOUND;
        }

        Right read() {
            start = 0;
            end = 0;
            fault = SOUND;
            Right right = new Right();
            right.visits = nextNumber(0, MOST_VISITS);
            nextMustBe("in");
            right.span = nextNumber(1, LONGEST_SPAN);
            next();
            readFar(right);
            readLong(right);
            readNot(right);
            if (start < tape.size) {
                refuse();
            }
            return right;
        }

        private void readFar(Right right) {
            if (isWord("far")) {
                right.far = nextNumber(0, FARTHEST_WAY);
                nextMustBe("and");
                right.more = nextNumber(1, MOST_MORE);
                next();
            }
        }

        private void readLong(Right right) {
            if (isWord("long")) {
                right.longest = nextNumber(1, LONGEST_VISIT);
                next();
            }
        }

        private void readNot(Right right) {
            boolean another = isWord("not");
            int weekday = -1;
            for (int i = 0; i < Tape.MOST_BYTES && another; i++) {
                weekday = nextNumber(weekday + 1, LAST_WEEKDAY);
                right.closed |= 1 << weekday;
                next();
                another = isWord("or");
            }
        }

        private void refuse() {
            if (!hasFault()) {
                fault = start;
            }
        }

        private void next() {
            if (hasFault()) {
                return;
            }
            start = end;
            while (start < tape.size && tape.bytes[start] == BLANK) {
                start++;
            }
            end = start;
            while (end < tape.size && tape.bytes[end] != BLANK) {
                end++;
            }
        }

        private boolean isWord(String word) {
            if (hasFault() || end - start != word.length()) {
                return false;
            }
            for (int i = 0; i < word.length(); i++) {
                if (tape.bytes[start + i] != word.charAt(i)) {
                    return false;
                }
            }
            return true;
        }

        private void nextMustBe(String word) {
            next();
            if (!isWord(word)) {
                refuse();
            }
        }

        /** The next word as a number; the least one that may stand here, if it is a fault. */
        private int nextNumber(int least, int most) {
            next();
            int value = wordAsNumber();
            if (value < least || value > most) {
                refuse();
                return least;
            }
            return value;
        }

        private int wordAsNumber() {
            if (start == end) {
                return NOT_A_NUMBER;
            }
            int value = 0;
            for (int i = start; i < end; i++) {
                int digit = tape.bytes[i] - '0';
                if (!isBelow(digit, 10)) {
                    return NOT_A_NUMBER;
                }
                // many digits would wrap round to a number that may stand
                value = Math.min(value * 10 + digit, FAR_TOO_MUCH);
            }
            return value;
        }
    }

    /** One visit, asked for or numbered. */
    private static final class Visit {
        private int prisoner;
        private int visitors;
        private int day;
        private int first;
        private int many;
        private boolean lawyers;
        private int state = GIVEN_BACK;
        /** Whether it is given back for a lawyer's; marked only while that one is looked at. */
        private boolean leaves;

        void fill(int prisoner, int visitors, int day, int halves, boolean lawyers) {
            this.prisoner = prisoner;
            this.visitors = visitors;
            this.day = day;
            this.first = halves / 10;
            this.many = halves % 10;
            this.lawyers = lawyers;
        }

        boolean isLetAt(int onDay, int half) {
            return state == LET && !leaves && day == onDay && half >= first && half < first + many;
        }

        boolean sharesHalfWith(Visit v) {
            return day == v.day && first < v.first + v.many && v.first < first + many;
        }

        boolean sharesPeopleWith(Visit v) {
            return prisoner == v.prisoner || (visitors & v.visitors) != 0;
        }
    }

    /** All visits that were ever numbered, and the day that it is. */
    private static final class Book {
        private static final int MOST_VISITS = 100;

        private final Visit[] visits = new Visit[MOST_VISITS];
        private int size;
        private int today;

        boolean isFull() {
            return size >= MOST_VISITS;
        }

        int enter(Visit v) {
            if (isFull()) {
                return FULL;
            }
            visits[size] = v;
            return size++;
        }

        Visit at(int number) {
            return isBelow(number, size) ? visits[number] : null;
        }

        int inState(int state) {
            int found = 0;
            for (int i = 0; i < size; i++) {
                found += visits[i].state == state ? 1 : 0;
            }
            return found;
        }

        int letAhead(int prisoner) {
            int let = 0;
            for (int i = 0; i < size; i++) {
                Visit v = visits[i];
                let += v.state == LET && v.prisoner == prisoner && v.day >= today ? 1 : 0;
            }
            return let;
        }

        int letAt(int day, int half) {
            int let = 0;
            for (int i = 0; i < size; i++) {
                let += visits[i].isLetAt(day, half) ? 1 : 0;
            }
            return let;
        }

        /** The one of the greatest number that a lawyer's may take the table of, or null. */
        Visit lastThatYields(int day, int half) {
            for (int i = size - 1; i >= 0; i--) {
                if (visits[i].isLetAt(day, half) && !visits[i].lawyers) {
                    return visits[i];
                }
            }
            return null;
        }

        /** Gives back what is let of a prisoner with one of these visitors, from a day and from today on. */
        int giveBackAll(int prisoner, int visitors, int from) {
            int back = 0;
            for (int i = 0; i < size; i++) {
                Visit v = visits[i];
                if (v.state == LET && v.prisoner == prisoner && (v.visitors & visitors) != 0
                        && v.day >= from && v.day >= today) {
                    v.state = GIVEN_BACK;
                    back++;
                }
            }
            return back;
        }

        boolean hasMeetingOfSamePeople(Visit v) {
            for (int i = 0; i < size; i++) {
                Visit other = visits[i];
                if (other.state == LET && other.sharesHalfWith(v) && other.sharesPeopleWith(v)) {
                    return true;
                }
            }
            return false;
        }

        void keepAll() {
            for (int i = 0; i < size; i++) {
                visits[i].leaves = false;
            }
        }

        void sendLeaversToWait() {
            for (int i = 0; i < size; i++) {
                if (visits[i].leaves) {
                    visits[i].leaves = false;
                    visits[i].state = WAITS;
                }
            }
        }
    }

    /** Says for which reason a visit is refused, and lets those who are not. */
    private static final class Gate {
        private static final int NOT_HERE = 1, NOT_LISTED = 2, BARRED = 3, CHILD_ALONE = 4, NO_RIGHT = 5,
                RIGHT_USED_UP = 6, SAME_PEOPLE = 7, RIVALS_MEET = 8, NO_TABLE = 9;
        private static final int FIRST_THAT_WAITS = RIGHT_USED_UP;

        private final People people;
        private final Right[] rights;
        private final Book book;
        private final Sheet tablesByDay;
        private int tables = 3;
        /** Visits a day around the day that is asked for: as many days as can share a span with it. */
        private final int[] tally = new int[2 * RightReader.LONGEST_SPAN - 1];

        Gate(People people, Right[] rights, Book book, Sheet tablesByDay) {
            this.people = people;
            this.rights = rights;
            this.book = book;
            this.tablesByDay = tablesByDay;
        }

        int tablesOn(int day) {
            if (!tablesByDay.has(day)) {
                return tables;
            }
            int told = tablesByDay.places[day];
            return isBelow(told, MOST_TABLES + 1) ? told : 0;
        }

        /** The reason for which it is refused now; 0, if it would be let, also by giving back others. */
        int reason(Visit v) {
            int reason = reasonOfPeople(v);
            if (reason == 0 && !v.lawyers) {
                reason = reasonOfRight(v);
            }
            if (reason == 0) {
                reason = reasonOfHall(v);
            }
            if (reason == NO_TABLE && v.lawyers) {
                boolean room = marksRoom(v);
                book.keepAll();
                return room ? 0 : NO_TABLE;
            }
            return reason;
        }

        /** Lets one that nothing refuses. */
        void admit(Visit v) {
            if (v.lawyers && marksRoom(v)) {
                book.sendLeaversToWait();
            }
            v.state = LET;
        }

        int letWaiting() {
            int let = 0;
            for (int i = 0; i < book.size; i++) {
                Visit v = book.visits[i];
                if (v.state == WAITS && v.day >= book.today && reason(v) == 0) {
                    admit(v);
                    let++;
                }
            }
            return let;
        }

        private int reasonOfPeople(Visit v) {
            Prisoner p = people.prisonerAt(v.prisoner);
            if (p == null || !p.here) {
                return NOT_HERE;
            }
            if (!people.areListed(p, v.visitors)) {
                return NOT_LISTED;
            }
            if (p.isBarred(v.visitors, v.day)) {
                return BARRED;
            }
            return people.needsKin(v.visitors) ? CHILD_ALONE : 0;
        }

        private int reasonOfRight(Visit v) {
            Prisoner p = people.prisonerAt(v.prisoner);
            if (p == null || !isBelow(p.aClass, rights.length)) {
                return NO_RIGHT;
            }
            Right right = rights[p.aClass];
            if (right == null || !right.allows(v)) {
                return NO_RIGHT;
            }
            boolean fromFar = right.far != NONE && people.comesFrom(v.visitors, right.far);
            return mostInSpan(v, right.span) + 1 > right.gives(fromFar) ? RIGHT_USED_UP : 0;
        }

        /** The most visits, no lawyer's, that are let to the prisoner in as many days with that day in them. */
        private int mostInSpan(Visit v, int span) {
            if (span < 1 || span > RightReader.LONGEST_SPAN) {
                return 0;
            }
            tallyAround(v, span);
            int inSpan = 0;
            for (int i = 0; i < span; i++) {
                inSpan += tally[i];
            }
            int most = inSpan;
            for (int i = span; i < 2 * span - 1; i++) {
                inSpan += tally[i] - tally[i - span];
                most = Math.max(most, inSpan);
            }
            return most;
        }

        private void tallyAround(Visit v, int span) {
            Arrays.fill(tally, 0);
            int firstDay = v.day - span + 1;
            for (int i = 0; i < book.size; i++) {
                Visit other = book.visits[i];
                int place = other.day - firstDay;
                if (other.state == LET && !other.lawyers && other.prisoner == v.prisoner
                        && isBelow(place, 2 * span - 1)) {
                    tally[place]++;
                }
            }
        }

        private int reasonOfHall(Visit v) {
            if (book.hasMeetingOfSamePeople(v)) {
                return SAME_PEOPLE;
            }
            if (meetsRivals(v)) {
                return RIVALS_MEET;
            }
            int most = tablesOn(v.day);
            for (int half = v.first; half < v.first + v.many; half++) {
                if (book.letAt(v.day, half) >= most) {
                    return NO_TABLE;
                }
            }
            return 0;
        }

        private boolean meetsRivals(Visit v) {
            Prisoner own = people.prisonerAt(v.prisoner);
            for (int i = 0; i < book.size; i++) {
                Visit other = book.visits[i];
                Prisoner theirs = people.prisonerAt(other.prisoner);
                if (own != null && theirs != null && people.areRivals(own.family, theirs.family)
                        && other.state == LET && other.sharesHalfWith(v)) {
                    return true;
                }
            }
            return false;
        }

        /**
         * Marks, half by half, those that must be given back for a lawyer's; false, with some marked, if that is not
         * enough. A mark counts as gone at once: who yields at one half frees a table at the later ones, too.
         */
        private boolean marksRoom(Visit v) {
            int most = tablesOn(v.day);
            for (int half = v.first; half < v.first + v.many; half++) {
                int tooMany = book.letAt(v.day, half) - most + 1;
                for (int i = 0; i < tooMany; i++) {
                    Visit last = book.lastThatYields(v.day, half);
                    if (last == null) {
                        return false;
                    }
                    last.leaves = true;
                }
            }
            return true;
        }
    }

    /** Who comes on a day, and whom the numbers draw for a search. */
    private static final class Searches {
        private static final int FACTOR = 1664525, STEP = 1013904223, ALL = 16777216;

        private int oneIn = 4;
        private int seed;
        private int come;
        private int searched;

        void draw(Book book, People people, int day) {
            come = 0;
            searched = 0;
            if (oneIn < 1) {
                return;
            }
            int bound = ALL / oneIn;
            int w = seed + day;
            for (int i = 0; i < book.size; i++) {
                Visit v = book.visits[i];
                int fresh = v.state == LET && v.day == day ? v.visitors & ~come : 0;
                for (int n = 0; n < People.MOST_VISITORS && fresh != 0; n++) {
                    if ((fresh >> n & 1) == 0) {
                        continue;
                    }
                    w = w * FACTOR + STEP;
                    if (w >>> 8 < bound && !people.isChild(n)) {
                        searched |= 1 << n;
                    }
                }
                come |= fresh;
            }
        }
    }

    /** A row of bytes, or nothing. */
    private static final class Sheet {
        private static final int MOST_PLACES = 60, MISSING = -1;

        private final byte[] places = new byte[MOST_PLACES];
        private int size = MISSING;

        boolean isMissing() {
            return size == MISSING;
        }

        void clear(int n) {
            Arrays.fill(places, (byte) 0);
            size = n;
        }

        boolean has(int place) {
            return isBelow(place, size);
        }

        boolean hasRun(int place, int many) {
            return many >= 0 && many <= size && place >= 0 && place <= size - many;
        }
    }
}
