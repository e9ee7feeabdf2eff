import java.util.NoSuchElementException;

/**
 * The ranges of the document's terms for every argument of every call: the least and the greatest
 * number are taken, the ones outside it are refused and leave no trace. Then which refusal comes first.
 */
public final class RangeEdgeTest {
    private interface Call {
        void with(StorageCharge x, int number);
    }

    public static void main(String[] args) {
        owners();
        classesAndKinds();
        daysOfCalls();
        months();
        pieces();
        signs();
        units();
        linesOfBills();
        numbersOfLines();
        signsPrinted();
        countsOfAnything();
        noSuchElementFirst();
        argumentBeforeState();
        stateBeforeRoom();
        argumentBeforeRoom();
        argumentBeforeNoUnitDays();
        lineAsksInItsOwnOrder();
        Checks.end();
    }

    /** Has what each call needs with owner 0 or 7, month 0 or 119, unit 0 or 1, line 0 or 1. */
    private static StorageCharge prepared() {
        StorageCharge x = Checks.charged("S 0 0 10\nS 7 4 10\nH 0 0 3\nM 7 5\n");
        x.unit(0, 0, 0);
        x.unit(7, 4, 0);
        x.move(0, 0, 0, 1);
        x.bill(0, 0);
        x.bill(7, 0);
        x.bill(0, 119);
        x.bill(7, 119);
        x.print(0);
        Checks.told(x, "S 0");
        return x;
    }

    private static void range(String name, int least, int most,
            Class<? extends RuntimeException> refusal, Call call) {
        for (int number : new int[] {least, most}) {
            StorageCharge x = prepared();
            Checks.answered(name + " " + number, () -> call.with(x, number));
        }
        int[] outside = {least - 1, most + 1, Integer.MIN_VALUE, Integer.MAX_VALUE};
        for (int number : outside) {
            StorageCharge x = prepared();
            Checks.refusedWithoutTrace(name + " " + number, x, refusal, () -> call.with(x, number));
        }
    }

    private static void range(String name, int least, int most, Call call) {
        range(name, least, most, IllegalArgumentException.class, call);
    }

    private static void owners() {
        Checks.sentence("OWNERS are 0 .. 7");
        range("unit: owner", 0, 7, (x, n) -> x.unit(n, 0, 0));
        range("move: owner", 0, 7, (x, n) -> x.move(n, 0, 0, 1));
        range("sum: owner", 0, 7, (x, n) -> x.sum(n, 0));
        range("days: owner", 0, 7, (x, n) -> x.days(n, 0));
        range("average: owner", 0, 7, (x, n) -> x.average(n, 0));
        range("bill: owner", 0, 7, (x, n) -> x.bill(n, 1));
        range("correct: owner", 0, 7, (x, n) -> x.correct(n, 0));
        range("line: owner", 0, 7, (x, n) -> x.line(n, 0, 0));
        range("billed: owner", 0, 7, (x, n) -> x.billed(n));
        range("compare: owner", 0, 7, (x, n) -> x.compare(n, 0, 0));
        range("compare: other", 0, 7, (x, n) -> x.compare(0, n, 0));
        range("print: owner", 0, 7, (x, n) -> x.print(n));
    }

    private static void classesAndKinds() {
        Checks.sentence("CLASSES and KINDS 0 .. 4");
        range("unit: class", 0, 4, (x, n) -> x.unit(0, n, 0));
        range("change: class", 0, 4, (x, n) -> x.change(0, n, 0));
        range("move: kind", 0, 4, (x, n) -> x.move(0, n, 0, 1));
    }

    private static void daysOfCalls() {
        Checks.sentence("DAYS 0 .. 3599");
        range("unit: day", 0, 3599, (x, n) -> x.unit(0, 0, n));
        range("change: day", 0, 3599, (x, n) -> x.change(0, 1, n));
        range("gone: day", 0, 3599, (x, n) -> x.gone(0, n));
        range("move: day", 0, 3599, (x, n) -> x.move(0, 0, n, 1));
    }

    private static void months() {
        Checks.sentence("MONTH m (0 .. 119)");
        range("sum: month", 0, 119, (x, n) -> x.sum(0, n));
        range("days: month", 0, 119, (x, n) -> x.days(0, n));
        range("average: month", 0, 119, (x, n) -> x.average(0, n));
        range("bill: month", 0, 119, (x, n) -> x.bill(1, n));
        range("correct: month", 0, 119, (x, n) -> x.correct(0, n));
        range("compare: month", 0, 119, (x, n) -> x.compare(0, 7, n));
    }

    private static void pieces() {
        Checks.sentence("pieces 1 .. 100");
        range("move: pieces", 1, 100, (x, n) -> x.move(0, 0, 0, n));
    }

    private static void signs() {
        Checks.sentence("the signs that were told (0 .. 255");
        range("sign", 0, 255, (x, n) -> x.sign(n));
    }

    private static void units() {
        Checks.sentence("NoSuchElementException: a unit or line that there is not");
        range("change: unit", 0, 1, NoSuchElementException.class, (x, n) -> x.change(n, 0, 0));
        range("gone: unit", 0, 1, NoSuchElementException.class, (x, n) -> x.gone(n, 0));
    }

    private static void linesOfBills() {
        Checks.sentence("NoSuchElementException: a unit or line that there is not");
        range("line: i", 0, 1, NoSuchElementException.class, (x, n) -> x.line(0, n, 0));
    }

    private static void numbersOfLines() {
        Checks.sentence("0 the month, 1 cents (below 0, perhaps), 2 whether it is a correction");
        range("line: what", 0, 2, (x, n) -> x.line(0, 1, n));
    }

    private static void signsPrinted() {
        Checks.sentence("ArrayIndexOutOfBoundsException (the machine's own): there is none");
        int last = "B 0 303\nB 119 300\n".length() - 1;
        range("at", 0, last, ArrayIndexOutOfBoundsException.class, (x, n) -> x.at(n));
    }

    private static void countsOfAnything() {
        Checks.sentence("-1 for another what");
        StorageCharge x = prepared();
        for (int what : new int[] {-1, 7, 8, Integer.MIN_VALUE, Integer.MAX_VALUE}) {
            Checks.due("count " + what, x.count(what), -1);
        }
        int[] due = {3, 4, 2, 2, 1, 18, 129};
        for (int what = 0; what < due.length; what++) {
            Checks.due("count " + what, x.count(what), due[what]);
        }
    }

    private static void noSuchElementFirst() {
        Checks.sentence("REFUSALS, the first that holds: NoSuchElementException: ..; IllegalArgument..");
        StorageCharge x = prepared();
        Class<NoSuchElementException> none = NoSuchElementException.class;
        Checks.refused("change: unit 2, class 5", none, () -> x.change(2, 5, 0));
        Checks.refused("change: unit -1, class -1", none, () -> x.change(-1, -1, 0));
        Checks.refused("change: unit 2, day 3600", none, () -> x.change(2, 0, 3600));
        Checks.refused("change: unit -1, day -1", none, () -> x.change(-1, 0, -1));
        Checks.refused("gone: unit 2, day 3600", none, () -> x.gone(2, 3600));
        Checks.refused("gone: unit -1, day -1", none, () -> x.gone(-1, -1));
    }

    private static void argumentBeforeState() {
        Checks.sentence("REFUSALS, the first that holds: IllegalArgument..; IllegalState..");
        StorageCharge x = prepared();
        x.gone(1, 20);
        Class<IllegalArgumentException> wrong = IllegalArgumentException.class;
        Checks.refused("change: gone, class 5", wrong, () -> x.change(1, 5, 20));
        Checks.refused("change: gone, class -1", wrong, () -> x.change(1, -1, 20));
        Checks.refused("change: gone, day 3600", wrong, () -> x.change(1, 0, 3600));
        Checks.refused("change: gone, day -1", wrong, () -> x.change(1, 0, -1));
        Checks.refused("gone: gone, day 3600", wrong, () -> x.gone(1, 3600));
        Checks.refused("gone: gone, day -1", wrong, () -> x.gone(1, -1));
        x.change(0, 1, 10);
        Checks.refused("change: day before, class 5", wrong, () -> x.change(0, 5, 9));
        Checks.refused("change: day -1 is before any, too", wrong, () -> x.change(0, 1, -1));
        Checks.refused("gone: day -1 is before any, too", wrong, () -> x.gone(0, -1));
        Checks.refused("correct: owner 8 is not billed, too", wrong, () -> x.correct(8, 0));
        Checks.refused("correct: month 120 is not billed, too", wrong, () -> x.correct(0, 120));
    }

    private static void stateBeforeRoom() {
        Checks.sentence("REFUSALS, the first that holds: IllegalState..; UnsupportedOperation..");
        StorageCharge x = prepared();
        for (int i = 0; i < 8; i++) {
            x.change(0, 1, 10);
            x.change(1, 1, 10);
        }
        x.gone(1, 10);
        Class<IllegalStateException> state = IllegalStateException.class;
        Checks.refused("change: told eight times", UnsupportedOperationException.class,
                () -> x.change(0, 1, 10));
        Checks.refused("change: told eight times, day before", state, () -> x.change(0, 1, 9));
        Checks.refused("change: told eight times, gone", state, () -> x.change(1, 1, 10));
        Checks.refused("change: told eight times, class 5", IllegalArgumentException.class,
                () -> x.change(0, 5, 10));
        Checks.refused("change: told eight times, day 3600", IllegalArgumentException.class,
                () -> x.change(0, 1, 3600));
    }

    private static void argumentBeforeRoom() {
        Checks.sentence("REFUSALS, the first that holds: IllegalArgument..; UnsupportedOperation..");
        StorageCharge x = new StorageCharge();
        for (int i = 0; i < 24; i++) {
            x.unit(0, 0, 0);
        }
        for (int i = 0; i < 60; i++) {
            x.move(0, 0, 0, 1);
        }
        int[][] wrong = {{-1, 0, 0, 1}, {8, 0, 0, 1}, {0, -1, 0, 1}, {0, 5, 0, 1}, {0, 0, -1, 1},
            {0, 0, 3600, 1}};
        for (int[] w : wrong) {
            Checks.refused("unit: no room and a wrong number", IllegalArgumentException.class,
                    () -> x.unit(w[0], w[1], w[2]));
            Checks.refused("move: no room and a wrong number", IllegalArgumentException.class,
                    () -> x.move(w[0], w[1], w[2], w[3]));
        }
        Checks.refused("move: no room and no piece", IllegalArgumentException.class,
                () -> x.move(0, 0, 0, 0));
        Checks.refused("move: no room and 101 pieces", IllegalArgumentException.class,
                () -> x.move(0, 0, 0, 101));
        StorageCharge y = new StorageCharge();
        Checks.told(y, "S".repeat(400));
        Checks.refused("sign: no room and -1", IllegalArgumentException.class, () -> y.sign(-1));
        Checks.refused("sign: no room and 256", IllegalArgumentException.class, () -> y.sign(256));
    }

    private static void argumentBeforeNoUnitDays() {
        Checks.sentence("average .. throws IllegalArgumentException, ArithmeticException");
        StorageCharge x = new StorageCharge();
        Checks.refused("no unit-days", ArithmeticException.class, () -> x.average(0, 0));
        int[][] wrong = {{-1, 0}, {8, 0}, {0, -1}, {0, 120}};
        for (int[] w : wrong) {
            Checks.refused("no unit-days and a wrong number", IllegalArgumentException.class,
                    () -> x.average(w[0], w[1]));
        }
    }

    private static void lineAsksInItsOwnOrder() {
        Checks.sentence("(owner, line, what are asked in this order)");
        StorageCharge x = prepared();
        Class<IllegalArgumentException> wrong = IllegalArgumentException.class;
        Class<NoSuchElementException> none = NoSuchElementException.class;
        Checks.refused("owner 8, line 2, what 0", wrong, () -> x.line(8, 2, 0));
        Checks.refused("owner -1, line -1, what 0", wrong, () -> x.line(-1, -1, 0));
        Checks.refused("owner 8, line 2, what 3", wrong, () -> x.line(8, 2, 3));
        Checks.refused("owner 0, line 2, what 3", none, () -> x.line(0, 2, 3));
        Checks.refused("owner 0, line -1, what -1", none, () -> x.line(0, -1, -1));
        Checks.refused("owner 0, line 1, what 3", wrong, () -> x.line(0, 1, 3));
        Checks.refused("owner 3 has no line, what 3", none, () -> x.line(3, 0, 3));
    }
}
