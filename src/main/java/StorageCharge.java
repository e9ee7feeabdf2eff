import java.util.ArrayList;
import java.util.Arrays;
import java.util.NoSuchElementException;

/**
 * Charges of a warehouse in text, per owner: units, moves, sums of months, bills and corrections.
 * ../shared/DOC.md says what each call answers and changes.
 */
public final class StorageCharge {
    private static final int OWNERS = 8;
    private static final int KINDS = 5;
    private static final int DAYS = 3600;
    private static final int MONTHS = 120;
    private static final int MONTH_DAYS = 30;
    private static final int CENTS_MOST = 10000;
    private static final int DISCOUNT_DAYS_MOST = 9000;
    private static final int PERCENT_MOST = 100;
    private static final int PIECES_MOST = 100;

    private static final int SIGN_MOST = 255;
    private static final int TEXT_SIGNS = 400;
    private static final int TEXT_LINES = 60;
    private static final int DIGITS_MOST = 6;
    private static final int BLANK = 32;
    private static final int LINE_END = 10;

    private static final int UNITS = 24;
    private static final int CHANGES = 8;
    private static final int MOVES = 60;

    /** An object is used for 512 calls, and a call writes one line at most. */
    private static final int BILL_LINES = 512;
    /** "C 119 -67200000" and its end: no sum of a month has more than eight digits. */
    private static final int BILL_LINE_SIGNS = 16;

    private static final long INT_POWER_MOST = 1000000000;

    /** Stands for a number that is not there; it is outside every range of the document. */
    private static final int NONE = -1;

    private final Text text = new Text();
    private Charges charges = new Charges();
    /** Reading fills this one, so that a wrong text leaves the charges alone. */
    private Charges draft = new Charges();
    private final ArrayList<Unit> units = new ArrayList<>();
    private final ArrayList<Move> moves = new ArrayList<>();
    private final Bills bills = new Bills();
    private final Paper paper = new Paper();

    public StorageCharge() {
    }

    public int sign(int c) throws IllegalArgumentException, UnsupportedOperationException {
        if (!isWithin(c, 0, SIGN_MOST)) {
            throw new IllegalArgumentException("no such sign");
        }
        if (text.isFull()) {
            throw new UnsupportedOperationException("the text is full");
        }
        text.add(c);
        return text.length;
    }

    public int read() {
        draft.clear();
        int answer = readLines();
        if (answer >= 0) {
            Charges earlier = charges;
            charges = draft;
            draft = earlier;
        }
        text.clear();
        return answer;
    }

    public int unit(int owner, int kind, int day)
            throws IllegalArgumentException, UnsupportedOperationException {
        checkOwner(owner);
        checkKind(kind);
        checkDay(day);
        if (units.size() >= UNITS) {
            throw new UnsupportedOperationException("no room for a unit");
        }
        units.add(new Unit(owner, kind, day));
        return units.size() - 1;
    }

    public boolean change(int unit, int kind, int day) throws NoSuchElementException,
            IllegalArgumentException, IllegalStateException, UnsupportedOperationException {
        checkUnit(unit);
        checkKind(kind);
        checkDay(day);
        Unit changed = units.get(unit);
        checkGoesOn(changed, day);
        if (changed.isFull()) {
            throw new UnsupportedOperationException("no room for a change");
        }
        boolean isAnother = changed.kindToldLast() != kind;
        changed.tell(kind, day);
        return isAnother;
    }

    public int gone(int unit, int day)
            throws NoSuchElementException, IllegalArgumentException, IllegalStateException {
        checkUnit(unit);
        checkDay(day);
        Unit leaving = units.get(unit);
        checkGoesOn(leaving, day);
        leaving.leave(day);
        return leaving.daysThere(0, DAYS - 1);
    }

    public int move(int owner, int kind, int day, int pieces)
            throws IllegalArgumentException, UnsupportedOperationException {
        checkOwner(owner);
        checkKind(kind);
        checkDay(day);
        if (!isWithin(pieces, 1, PIECES_MOST)) {
            throw new IllegalArgumentException("no such number of pieces");
        }
        if (moves.size() >= MOVES) {
            throw new UnsupportedOperationException("no room for a move");
        }
        moves.add(new Move(owner, kind, day, pieces));
        return movesOf(owner);
    }

    public int sum(int owner, int month) throws IllegalArgumentException {
        checkOwner(owner);
        checkMonth(month);
        return sumBy(owner, owner, month);
    }

    public int days(int owner, int month) throws IllegalArgumentException {
        checkOwner(owner);
        checkMonth(month);
        return unitDays(owner, month);
    }

    public int average(int owner, int month)
            throws IllegalArgumentException, ArithmeticException {
        checkOwner(owner);
        checkMonth(month);
        int unitDays = unitDays(owner, month);
        if (unitDays == 0) {
            throw new ArithmeticException("no unit-days");
        }
        return storageBy(owner, owner, month) / unitDays;
    }

    public int bill(int owner, int month) throws IllegalArgumentException, IllegalStateException {
        checkOwner(owner);
        checkMonth(month);
        if (bills.isBilled(owner, month)) {
            throw new IllegalStateException("the month is billed");
        }
        int cents = sumBy(owner, owner, month);
        bills.add(new BillLine(owner, month, cents, false));
        return cents;
    }

    public int correct(int owner, int month)
            throws IllegalArgumentException, IllegalStateException {
        checkOwner(owner);
        checkMonth(month);
        if (!bills.isBilled(owner, month)) {
            throw new IllegalStateException("the month is not billed");
        }
        int cents = sumBy(owner, owner, month) - bills.centsOfMonth(owner, month);
        if (cents != 0) {
            bills.add(new BillLine(owner, month, cents, true));
        }
        return cents;
    }

    public int line(int owner, int i, int what)
            throws NoSuchElementException, IllegalArgumentException {
        checkOwner(owner);
        BillLine found = bills.find(owner, i);
        if (found == null) {
            throw new NoSuchElementException("no such line");
        }
        switch (what) {
            case 0:
                return found.month;
            case 1:
                return found.cents;
            case 2:
                return found.isCorrection ? 1 : 0;
            default:
                throw new IllegalArgumentException("a line has no such number");
        }
    }

    public int billed(int owner) throws IllegalArgumentException {
        checkOwner(owner);
        return bills.centsOfOwner(owner);
    }

    public int compare(int owner, int other, int month) throws IllegalArgumentException {
        checkOwner(owner);
        checkOwner(other);
        checkMonth(month);
        return sumBy(other, owner, month) - sumBy(owner, owner, month);
    }

    public int print(int owner) throws IllegalArgumentException {
        checkOwner(owner);
        paper.clear();
        for (int i = 0; i < bills.lines.size(); i++) {
            BillLine next = bills.lines.get(i);
            if (next.owner == owner) {
                paper.write(next);
            }
        }
        return paper.length;
    }

    public int at(int i) throws ArrayIndexOutOfBoundsException {
        if (!isWithin(i, 0, paper.length - 1)) {
            throw new ArrayIndexOutOfBoundsException("no such sign was printed");
        }
        return paper.signs[i];
    }

    public int count(int what) {
        switch (what) {
            case 0:
                return text.length;
            case 1:
                return charges.lines;
            case 2:
                return units.size();
            case 3:
                return unitsStillThere();
            case 4:
                return moves.size();
            case 5:
                return paper.length;
            case 6:
                return charges.owners;
            default:
                return NONE;
        }
    }

    private static boolean isWithin(int number, int least, int most) {
        return number >= least && number <= most;
    }

    private static void checkOwner(int owner) {
        if (!isWithin(owner, 0, OWNERS - 1)) {
            throw new IllegalArgumentException("no such owner");
        }
    }

    private static void checkKind(int kind) {
        if (!isWithin(kind, 0, KINDS - 1)) {
            throw new IllegalArgumentException("no such class or kind");
        }
    }

    private static void checkDay(int day) {
        if (!isWithin(day, 0, DAYS - 1)) {
            throw new IllegalArgumentException("no such day");
        }
    }

    private static void checkMonth(int month) {
        if (!isWithin(month, 0, MONTHS - 1)) {
            throw new IllegalArgumentException("no such month");
        }
    }

    private void checkUnit(int unit) {
        if (!isWithin(unit, 0, units.size() - 1)) {
            throw new NoSuchElementException("no such unit");
        }
    }

    private static void checkGoesOn(Unit unit, int day) {
        if (unit.isGone) {
            throw new IllegalStateException("the unit is gone");
        }
        if (day < unit.dayToldLast()) {
            throw new IllegalStateException("the day is before the last one told");
        }
    }

    /** How many lines the text has, all told to the draft, or what read answers to a wrong one. */
    private int readLines() {
        for (int lines = 0; lines < TEXT_LINES; lines++) {
            if (text.isRead()) {
                return lines;
            }
            int start = text.place;
            if (!readLine()) {
                return -1 - start;
            }
        }
        return text.isRead() ? TEXT_LINES : -1 - text.place;
    }

    /** A number that is not there is NONE, which the draft refuses with all others out of range. */
    private boolean readLine() {
        int letter = text.takeSign();
        int owner = text.takeNumber();
        int second = text.takeNumber();
        int third = letter == 'M' ? NONE : text.takeNumber();
        return text.takeSign() == LINE_END && draft.tell(letter, owner, second, third);
    }

    private int movesOf(int owner) {
        int found = 0;
        for (int i = 0; i < moves.size(); i++) {
            if (moves.get(i).owner == owner) {
                found++;
            }
        }
        return found;
    }

    private int unitsStillThere() {
        int found = 0;
        for (int i = 0; i < units.size(); i++) {
            if (!units.get(i).isGone) {
                found++;
            }
        }
        return found;
    }

    /** The sum of an owner for a month, by the charges of an owner who may be another one. */
    private int sumBy(int charged, int owner, int month) {
        int cents = storageBy(charged, owner, month) + handlingBy(charged, owner, month);
        return Math.max(cents, charges.minimumOf(charged));
    }

    private int storageBy(int charged, int owner, int month) {
        int cents = 0;
        for (int i = 0; i < units.size(); i++) {
            Unit unit = units.get(i);
            if (unit.owner == owner) {
                cents += storageOfUnit(charged, unit, month);
            }
        }
        int percent = charges.percentFor(charged, unitDays(owner, month));
        return cents - cents * percent / 100;
    }

    private int storageOfUnit(int charged, Unit unit, int month) {
        int start = Math.max(firstDayOf(month), unit.firstDay);
        int end = Math.min(lastDayOf(month), unit.lastDay);
        int cents = 0;
        for (int day = start; day <= end; day++) {
            cents += charges.storageCents(charged, unit.kindOn(day));
        }
        return cents;
    }

    private int handlingBy(int charged, int owner, int month) {
        int cents = 0;
        for (int i = 0; i < moves.size(); i++) {
            Move move = moves.get(i);
            if (move.owner == owner && isWithin(move.day, firstDayOf(month), lastDayOf(month))) {
                cents += move.pieces * charges.handlingCents(charged, move.kind);
            }
        }
        return cents;
    }

    private int unitDays(int owner, int month) {
        int found = 0;
        for (int i = 0; i < units.size(); i++) {
            Unit unit = units.get(i);
            if (unit.owner == owner) {
                found += unit.daysThere(firstDayOf(month), lastDayOf(month));
            }
        }
        return found;
    }

    private static int firstDayOf(int month) {
        return MONTH_DAYS * month;
    }

    private static int lastDayOf(int month) {
        return MONTH_DAYS * month + MONTH_DAYS - 1;
    }

    /** The signs that were told, and how far they are read. */
    private static final class Text {
        private final char[] signs = new char[TEXT_SIGNS];
        private int length = 0;
        private int place = 0;

        boolean isFull() {
            return length >= signs.length;
        }

        void add(int c) {
            if (!isFull()) {
                signs[length] = (char) c;
                length++;
            }
        }

        void clear() {
            length = 0;
            place = 0;
        }

        boolean isRead() {
            return place >= length;
        }

        int nextSign() {
            return isWithin(place, 0, length - 1) ? signs[place] : NONE;
        }

        int takeSign() {
            int sign = nextSign();
            if (sign != NONE) {
                place++;
            }
            return sign;
        }

        /** The number behind one blank, or NONE; then the line is wrong and its rest unimportant. */
        int takeNumber() {
            if (nextSign() != BLANK) {
                return NONE;
            }
            place++;
            boolean startsWithZero = nextSign() == '0';
            int digits = 0;
            int number = 0;
            while (digits < DIGITS_MOST && isWithin(nextSign(), '0', '9')) {
                number = 10 * number + takeSign() - '0';
                digits++;
            }
            boolean isNumber = digits == 1 || digits > 1 && !startsWithZero;
            return isNumber ? number : NONE;
        }
    }

    /** The lines of one right text; NONE where nothing is told. */
    private static final class Charges {
        private final int[] storage = new int[OWNERS * KINDS];
        private final int[] handling = new int[OWNERS * KINDS];
        private final int[] minimum = new int[OWNERS];
        private final int[] discountOwners = new int[TEXT_LINES];
        private final int[] discountDays = new int[TEXT_LINES];
        private final int[] discountPercents = new int[TEXT_LINES];
        private int discounts = 0;
        private int lines = 0;
        private int owners = 0;

        Charges() {
            clear();
        }

        private void clear() {
            Arrays.fill(storage, NONE);
            Arrays.fill(handling, NONE);
            Arrays.fill(minimum, NONE);
            discounts = 0;
            lines = 0;
            owners = 0;
        }

        /** Whether the line is as said; only then it is kept. */
        boolean tell(int letter, int owner, int second, int third) {
            if (!isWithin(owner, 0, OWNERS - 1) || !tellOf(letter, owner, second, third)) {
                return false;
            }
            lines++;
            owners |= 1 << owner;
            return true;
        }

        private boolean tellOf(int letter, int owner, int second, int third) {
            switch (letter) {
                case 'S':
                    return isWithin(second, 0, KINDS - 1)
                            && tellCents(storage, place(owner, second), third);
                case 'H':
                    return isWithin(second, 0, KINDS - 1)
                            && tellCents(handling, place(owner, second), third);
                case 'M':
                    return tellCents(minimum, owner, second);
                case 'V':
                    return tellDiscount(owner, second, third);
                default:
                    return false;
            }
        }

        private static int place(int owner, int kind) {
            return KINDS * owner + kind;
        }

        private static boolean tellCents(int[] row, int place, int cents) {
            if (!isWithin(cents, 0, CENTS_MOST) || !isWithin(place, 0, row.length - 1)
                    || row[place] != NONE) {
                return false;
            }
            row[place] = cents;
            return true;
        }

        private boolean tellDiscount(int owner, int days, int percent) {
            if (!isWithin(days, 1, DISCOUNT_DAYS_MOST) || !isWithin(percent, 0, PERCENT_MOST)
                    || hasDiscount(owner, days) || discounts >= TEXT_LINES) {
                return false;
            }
            discountOwners[discounts] = owner;
            discountDays[discounts] = days;
            discountPercents[discounts] = percent;
            discounts++;
            return true;
        }

        private boolean hasDiscount(int owner, int days) {
            for (int i = 0; i < discounts; i++) {
                if (discountOwners[i] == owner && discountDays[i] == days) {
                    return true;
                }
            }
            return false;
        }

        int storageCents(int owner, int kind) {
            return toldOrZero(storage, place(owner, kind));
        }

        int handlingCents(int owner, int kind) {
            return toldOrZero(handling, place(owner, kind));
        }

        /** No sum is below 0, so a minimum of 0 is as good as none. */
        int minimumOf(int owner) {
            return toldOrZero(minimum, owner);
        }

        private static int toldOrZero(int[] row, int place) {
            return isWithin(place, 0, row.length - 1) && row[place] != NONE ? row[place] : 0;
        }

        /** The percent of the discount with the most days that so many unit-days reach. */
        int percentFor(int owner, int unitDays) {
            int mostDays = 0;
            int percent = 0;
            for (int i = 0; i < discounts; i++) {
                if (discountOwners[i] == owner && isWithin(discountDays[i], mostDays, unitDays)) {
                    mostDays = discountDays[i];
                    percent = discountPercents[i];
                }
            }
            return percent;
        }
    }

    /** A unit with the classes told of it, the first one when it came. */
    private static final class Unit {
        private final int owner;
        private final int firstDay;
        private int lastDay = DAYS - 1;
        private boolean isGone = false;
        private final int[] toldKinds = new int[1 + CHANGES];
        private final int[] toldDays = new int[1 + CHANGES];
        private int told = 1;

        Unit(int owner, int kind, int day) {
            this.owner = owner;
            this.firstDay = day;
            toldKinds[0] = kind;
            toldDays[0] = day;
        }

        boolean isFull() {
            return told >= toldKinds.length;
        }

        int kindToldLast() {
            return toldKinds[told - 1];
        }

        int dayToldLast() {
            return toldDays[told - 1];
        }

        void tell(int kind, int day) {
            if (!isFull()) {
                toldKinds[told] = kind;
                toldDays[told] = day;
                told++;
            }
        }

        void leave(int day) {
            lastDay = day;
            isGone = true;
        }

        int daysThere(int from, int to) {
            return Math.max(0, Math.min(to, lastDay) - Math.max(from, firstDay) + 1);
        }

        /** The greatest class of the day, be it the one before or any of those told on it. */
        int kindOn(int day) {
            int kind = toldKinds[0];
            for (int i = 1; i < told; i++) {
                if (toldDays[i] < day) {
                    kind = toldKinds[i];
                } else if (toldDays[i] == day) {
                    kind = Math.max(kind, toldKinds[i]);
                }
            }
            return kind;
        }
    }

    private static final class Move {
        private final int owner;
        private final int kind;
        private final int day;
        private final int pieces;

        Move(int owner, int kind, int day, int pieces) {
            this.owner = owner;
            this.kind = kind;
            this.day = day;
            this.pieces = pieces;
        }
    }

    private static final class BillLine {
        private final int owner;
        private final int month;
        private final int cents;
        private final boolean isCorrection;

        BillLine(int owner, int month, int cents, boolean isCorrection) {
            this.owner = owner;
            this.month = month;
            this.cents = cents;
            this.isCorrection = isCorrection;
        }
    }

    /** The bills and corrections of all owners, as they came. */
    private static final class Bills {
        private final ArrayList<BillLine> lines = new ArrayList<>();

        /** What comes behind the last call that is promised is not kept. */
        void add(BillLine line) {
            if (lines.size() < BILL_LINES) {
                lines.add(line);
            }
        }

        /** A month's first line is its bill, so any line of it shows that it is billed. */
        boolean isBilled(int owner, int month) {
            for (int i = 0; i < lines.size(); i++) {
                BillLine line = lines.get(i);
                if (line.owner == owner && line.month == month) {
                    return true;
                }
            }
            return false;
        }

        int centsOfMonth(int owner, int month) {
            int cents = 0;
            for (int i = 0; i < lines.size(); i++) {
                BillLine line = lines.get(i);
                if (line.owner == owner && line.month == month) {
                    cents += line.cents;
                }
            }
            return cents;
        }

        int centsOfOwner(int owner) {
            int cents = 0;
            for (int i = 0; i < lines.size(); i++) {
                BillLine line = lines.get(i);
                if (line.owner == owner) {
                    cents += line.cents;
                }
            }
            return cents;
        }

        /** Line i of the owner, or null. */
        BillLine find(int owner, int i) {
            int before = 0;
            for (int k = 0; k < lines.size(); k++) {
                BillLine line = lines.get(k);
                if (line.owner == owner) {
                    if (before == i) {
                        return line;
                    }
                    before++;
                }
            }
            return null;
        }
    }

    /** What was printed last; one row for all printing, so that a call makes nothing new. */
    private static final class Paper {
        private final char[] signs = new char[BILL_LINES * BILL_LINE_SIGNS];
        private int length = 0;

        void clear() {
            length = 0;
        }

        void write(BillLine line) {
            put(line.isCorrection ? 'C' : 'B');
            putNumber(line.month);
            putNumber(line.cents);
            put(LINE_END);
        }

        private void put(int sign) {
            if (length < signs.length) {
                signs[length] = (char) sign;
                length++;
            }
        }

        private void putNumber(int number) {
            put(BLANK);
            if (number < 0) {
                put('-');
            }
            long size = Math.abs((long) number);
            for (long power = INT_POWER_MOST; power > 0; power /= 10) {
                if (size >= power || power == 1) {
                    put((int) ('0' + size / power % 10));
                }
            }
        }
    }
}
