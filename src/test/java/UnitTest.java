import java.util.NoSuchElementException;

/** Promises 4 (unit), 5 (change) and 6 (gone). */
public final class UnitTest {
    public static void main(String[] args) {
        units();
        unitsRefused();
        changes();
        changesRefused();
        eightChanges();
        gone();
        goneRefused();
        Checks.end();
    }

    private static void units() {
        StorageCharge x = new StorageCharge();
        Checks.due("first unit", x.unit(7, 4, 3599), 0);
        Checks.due("second unit, of an earlier day", x.unit(0, 0, 0), 1);
        Checks.due("third unit", x.unit(7, 0, 1800), 2);
        Checks.due("units", x.count(2), 3);
        Checks.due("days of owner 7", x.days(7, 119), 31);
        Checks.due("days of owner 0", x.days(0, 119), 30);
    }

    private static void unitsRefused() {
        StorageCharge x = new StorageCharge();
        String before = Checks.stateOf(x);
        int[][] wrong = {{-1, 0, 0}, {8, 0, 0}, {0, -1, 0}, {0, 5, 0}, {0, 0, -1}, {0, 0, 3600},
            {Integer.MIN_VALUE, 0, 0}, {0, Integer.MAX_VALUE, 0}, {0, 0, Integer.MIN_VALUE}};
        for (int[] w : wrong) {
            Checks.refused("unit", IllegalArgumentException.class, () -> x.unit(w[0], w[1], w[2]));
        }
        Checks.due("state after refusals", Checks.stateOf(x), before);
        for (int i = 0; i < 24; i++) {
            Checks.due("unit", x.unit(i % 8, i % 5, i), i);
        }
        x.gone(3, 3599);
        String full = Checks.stateOf(x);
        Checks.refused("unit 24", UnsupportedOperationException.class, () -> x.unit(0, 0, 0));
        Checks.refused("a wrong owner comes before no room", IllegalArgumentException.class,
                () -> x.unit(8, 0, 0));
        Checks.due("state after no room", Checks.stateOf(x), full);
    }

    private static void changes() {
        StorageCharge x = Checks.charged("S 0 0 1\nS 0 1 10\nS 0 2 100\nS 0 3 1000\n");
        x.unit(0, 1, 3);
        Checks.due("the same class", x.change(0, 1, 5), false);
        Checks.due("sum", x.sum(0, 0), 270);
        Checks.due("a greater class", x.change(0, 2, 10), true);
        Checks.due("7 days and 20 days", x.sum(0, 0), 70 + 2000);
        Checks.due("a smaller class", x.change(0, 0, 20), true);
        Checks.due("7, 11 and 9 days", x.sum(0, 0), 70 + 1100 + 9);
        Checks.due("the month behind", x.sum(0, 1), 30);
        Checks.due("up and down on one day", x.change(0, 3, 25), true);
        Checks.due("down again", x.change(0, 0, 25), true);
        Checks.due("the greatest class of that day counts", x.sum(0, 0), 70 + 1100 + 4 + 1000 + 4);
        Checks.due("days are the same", x.days(0, 0), 27);
        StorageCharge y = Checks.charged("S 0 0 1\nS 0 1 10\nS 0 2 100\n");
        y.unit(0, 1, 29);
        y.change(0, 2, 29);
        Checks.due("on its first day", y.sum(0, 0), 100);
        y.change(0, 0, 29);
        Checks.due("on its first day, down", y.sum(0, 0), 100);
        Checks.due("the day behind", y.sum(0, 1), 30);
        y.change(0, 2, 30);
        Checks.due("the classes before a day's end do not count on the next", y.sum(0, 1), 3000);
    }

    private static void changesRefused() {
        StorageCharge x = Checks.charged("S 0 0 1\nS 0 1 10\n");
        Checks.refused("no unit", NoSuchElementException.class, () -> x.change(0, 0, 0));
        x.unit(0, 0, 10);
        x.unit(0, 0, 10);
        x.gone(1, 20);
        String before = Checks.stateOf(x);
        Checks.refused("unit -1", NoSuchElementException.class, () -> x.change(-1, 9, 9999));
        Checks.refused("unit 2", NoSuchElementException.class, () -> x.change(2, 9, 9999));
        Checks.refused("class -1", IllegalArgumentException.class, () -> x.change(0, -1, 20));
        Checks.refused("class 5", IllegalArgumentException.class, () -> x.change(0, 5, 20));
        Checks.refused("day -1", IllegalArgumentException.class, () -> x.change(0, 1, -1));
        Checks.refused("day 3600", IllegalArgumentException.class, () -> x.change(0, 1, 3600));
        Checks.refused("a range comes before the state", IllegalArgumentException.class,
                () -> x.change(1, 5, 20));
        Checks.refused("before it came", IllegalStateException.class, () -> x.change(0, 1, 9));
        Checks.refused("gone", IllegalStateException.class, () -> x.change(1, 1, 20));
        Checks.refused("gone, later", IllegalStateException.class, () -> x.change(1, 1, 21));
        Checks.due("state after refusals", Checks.stateOf(x), before);
        Checks.due("the same class again", x.change(0, 0, 15), false);
        Checks.refused("before the last one told", IllegalStateException.class,
                () -> x.change(0, 1, 14));
        Checks.due("on the last one told", x.change(0, 1, 15), true);
        Checks.due("last told is the class now", x.change(0, 1, 3599), false);
    }

    private static void eightChanges() {
        StorageCharge x = Checks.charged("S 0 0 1\nS 0 1 10\n");
        x.unit(0, 0, 0);
        x.unit(0, 0, 0);
        for (int i = 1; i <= 8; i++) {
            Checks.due("change " + i, x.change(0, i % 2, i), true);
        }
        String before = Checks.stateOf(x);
        Checks.refused("change 9", UnsupportedOperationException.class, () -> x.change(0, 0, 8));
        Checks.refused("the day comes before no room", IllegalStateException.class,
                () -> x.change(0, 0, 7));
        Checks.refused("the class comes before no room", IllegalArgumentException.class,
                () -> x.change(0, 5, 8));
        Checks.due("state after refusals", Checks.stateOf(x), before);
        Checks.due("day 0 and day 9 on cost 1", x.sum(0, 0), 1 + 8 * 10 + 21 + 30);
        Checks.due("another unit has room", x.change(1, 1, 0), true);
        Checks.due("gone needs no room", x.gone(0, 8), 9);
        Checks.refused("gone comes before no room", IllegalStateException.class,
                () -> x.change(0, 0, 8));
    }

    private static void gone() {
        StorageCharge x = Checks.charged("S 0 0 1\n");
        x.unit(0, 0, 5);
        x.unit(0, 0, 0);
        x.unit(0, 0, 3599);
        Checks.due("there still", x.count(3), 3);
        Checks.due("on its first day", x.gone(0, 5), 1);
        Checks.due("there still but one", x.count(3), 2);
        Checks.due("units", x.count(2), 3);
        Checks.due("all days", x.gone(1, 3599), 3600);
        Checks.due("the last day", x.gone(2, 3599), 1);
        Checks.due("none still", x.count(3), 0);
        Checks.due("month 0", x.sum(0, 0), 31);
        Checks.due("month 119", x.days(0, 119), 31);
        StorageCharge y = Checks.charged("S 0 0 1\n");
        y.unit(0, 0, 25);
        Checks.due("over two months", y.gone(0, 34), 10);
        Checks.due("days before", y.days(0, 0), 5);
        Checks.due("days, the last one counted", y.days(0, 1), 5);
        Checks.due("days behind", y.days(0, 2), 0);
    }

    private static void goneRefused() {
        StorageCharge x = Checks.charged("S 0 0 1\n");
        x.unit(0, 0, 5);
        x.unit(0, 0, 5);
        x.change(0, 0, 8);
        x.gone(1, 7);
        String before = Checks.stateOf(x);
        Checks.refused("unit -1", NoSuchElementException.class, () -> x.gone(-1, -1));
        Checks.refused("unit 2", NoSuchElementException.class, () -> x.gone(2, 3600));
        Checks.refused("day -1", IllegalArgumentException.class, () -> x.gone(0, -1));
        Checks.refused("day 3600", IllegalArgumentException.class, () -> x.gone(0, 3600));
        Checks.refused("a range comes before the state", IllegalArgumentException.class,
                () -> x.gone(1, 3600));
        Checks.refused("before the last one told", IllegalStateException.class, () -> x.gone(0, 7));
        Checks.refused("gone already", IllegalStateException.class, () -> x.gone(1, 7));
        Checks.refused("gone already, later", IllegalStateException.class, () -> x.gone(1, 9));
        Checks.due("state after refusals", Checks.stateOf(x), before);
        Checks.due("on the last one told", x.gone(0, 8), 4);
    }
}
