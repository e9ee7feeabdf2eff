/** Promises 7 (move), 8 (sum), 9 (days), 10 (average) and 15 (compare). */
public final class SumTest {
    public static void main(String[] args) {
        moves();
        movesRefused();
        handling();
        storage();
        minimum();
        discounts();
        roundingOfDiscounts();
        average();
        compare();
        greatestSum();
        refused();
        Checks.end();
    }

    private static void moves() {
        StorageCharge x = new StorageCharge();
        Checks.due("first of owner 0", x.move(0, 0, 0, 1), 1);
        Checks.due("first of owner 7", x.move(7, 4, 3599, 100), 1);
        Checks.due("second of owner 0", x.move(0, 0, 0, 1), 2);
        Checks.due("moves", x.count(4), 3);
    }

    private static void movesRefused() {
        StorageCharge x = new StorageCharge();
        int[][] wrong = {{-1, 0, 0, 1}, {8, 0, 0, 1}, {0, -1, 0, 1}, {0, 5, 0, 1}, {0, 0, -1, 1},
            {0, 0, 3600, 1}, {0, 0, 0, 0}, {0, 0, 0, 101}, {0, 0, 0, -1}};
        for (int[] w : wrong) {
            Checks.refused("move", IllegalArgumentException.class,
                    () -> x.move(w[0], w[1], w[2], w[3]));
        }
        Checks.due("no moves", x.count(4), 0);
        for (int i = 0; i < 60; i++) {
            Checks.due("move", x.move(i % 2, 0, 0, 1), i / 2 + 1);
        }
        Checks.refused("move 60", UnsupportedOperationException.class, () -> x.move(5, 0, 0, 1));
        Checks.refused("pieces come before no room", IllegalArgumentException.class,
                () -> x.move(5, 0, 0, 101));
        Checks.due("moves", x.count(4), 60);
    }

    private static void handling() {
        StorageCharge x = Checks.charged("H 0 0 3\nH 0 4 50\nH 1 0 7\n");
        x.move(0, 0, 29, 10);
        x.move(0, 0, 30, 100);
        x.move(0, 4, 59, 2);
        x.move(0, 1, 40, 9);
        x.move(0, 0, 60, 1);
        x.move(1, 0, 30, 1);
        Checks.due("month 0", x.sum(0, 0), 30);
        Checks.due("month 1", x.sum(0, 1), 400);
        Checks.due("month 2", x.sum(0, 2), 3);
        Checks.due("owner 1", x.sum(1, 1), 7);
        Checks.due("no unit-days of moves", x.days(0, 1), 0);
    }

    private static void storage() {
        StorageCharge x = Checks.charged("S 0 0 10\nS 0 4 1000\nS 1 0 7\n");
        x.unit(0, 0, 29);
        x.unit(0, 4, 31);
        x.unit(0, 2, 0);
        x.unit(1, 0, 45);
        Checks.due("month 0", x.sum(0, 0), 10);
        Checks.due("days of month 0, a class without cents too", x.days(0, 0), 31);
        Checks.due("month 1", x.sum(0, 1), 300 + 29000);
        Checks.due("days of month 1", x.days(0, 1), 89);
        Checks.due("still there in month 119", x.sum(0, 119), 300 + 30000);
        Checks.due("owner 1", x.sum(1, 1), 105);
        Checks.due("owner 1 before", x.days(1, 0), 0);
        Checks.due("owner 2", x.sum(2, 119), 0);
    }

    private static void minimum() {
        StorageCharge x = Checks.charged("M 0 100\nH 0 0 1\nS 0 0 1\nM 1 0\n");
        Checks.due("of nothing", x.sum(0, 7), 100);
        Checks.due("of 0", x.sum(1, 7), 0);
        Checks.due("none told", x.sum(2, 7), 0);
        x.move(0, 0, 0, 99);
        Checks.due("below", x.sum(0, 0), 100);
        x.move(0, 0, 0, 1);
        Checks.due("the same", x.sum(0, 0), 100);
        x.move(0, 0, 0, 1);
        Checks.due("above", x.sum(0, 0), 101);
        x.unit(0, 0, 29);
        Checks.due("both together", x.sum(0, 0), 102);
    }

    private static void discounts() {
        String rates = "S 0 0 100\nH 0 0 1\n";
        StorageCharge x = Checks.charged(rates + "V 0 20 50\nV 0 30 25\nV 0 10 1\nV 1 5 99\n");
        x.move(0, 0, 0, 100);
        x.unit(0, 0, 21);
        Checks.due("9 days: none", x.sum(0, 0), 900 + 100);
        x.unit(0, 0, 29);
        Checks.due("10 days: 1", x.sum(0, 0), 990 + 100);
        x.unit(0, 1, 21);
        Checks.due("19 days: 1", x.sum(0, 0), 990 + 100);
        x.unit(0, 1, 29);
        Checks.due("20 days: 50, handling is not less", x.sum(0, 0), 500 + 100);
        x.unit(0, 1, 20);
        Checks.due("30 days: that of the most days, not the most percent", x.sum(0, 0), 750 + 100);
        StorageCharge y = Checks.charged(rates + "V 0 1 100\nV 0 2 0\n");
        y.unit(0, 0, 29);
        Checks.due("100 percent", y.sum(0, 0), 0);
        Checks.due("0 percent of the most days", y.sum(0, 1), 3000);
    }

    private static void roundingOfDiscounts() {
        StorageCharge x = Checks.charged("S 0 0 1\nS 0 1 7\nV 0 1 33\nM 1 5\n");
        x.unit(0, 0, 29);
        Checks.due("1 less 0.33", x.sum(0, 0), 1);
        x.unit(0, 1, 29);
        Checks.due("8 less 2.64", x.sum(0, 0), 6);
        Checks.due("240 less 79.2", x.sum(0, 1), 161);
    }

    private static void average() {
        StorageCharge x = Checks.charged("S 0 0 10\nS 0 1 25\nV 0 31 10\nM 0 9999\nH 0 0 100\n");
        x.unit(0, 0, 0);
        x.move(0, 0, 0, 100);
        Checks.due("without minimum and handling", x.average(0, 0), 10);
        x.unit(0, 1, 29);
        Checks.due("325 less 32 by 31", x.average(0, 0), 9);
        Checks.due("1050 less 105 by 60", x.average(0, 1), 15);
        Checks.refused("no unit-days", ArithmeticException.class, () -> x.average(1, 0));
        Checks.refused("owner -1", IllegalArgumentException.class, () -> x.average(-1, 0));
        Checks.refused("owner 8", IllegalArgumentException.class, () -> x.average(8, 0));
        Checks.refused("month -1", IllegalArgumentException.class, () -> x.average(1, -1));
        Checks.refused("month 120", IllegalArgumentException.class, () -> x.average(1, 120));
        x.unit(2, 3, 3599);
        Checks.due("no cents told", x.average(2, 119), 0);
        Checks.refused("no unit-days before", ArithmeticException.class, () -> x.average(2, 118));
    }

    private static void compare() {
        StorageCharge x = Checks.charged(
                "S 0 0 10\nH 0 0 3\nM 0 50\nV 0 30 50\nS 1 0 7\nH 1 1 100\nM 2 1000\nV 3 1 1\n");
        x.unit(0, 0, 0);
        x.move(0, 0, 0, 10);
        x.move(0, 1, 0, 1);
        x.unit(1, 4, 0);
        Checks.due("sum", x.sum(0, 0), 180);
        Checks.due("by those of 1", x.compare(0, 1, 0), 210 + 100 - 180);
        Checks.due("by those of 2", x.compare(0, 2, 0), 1000 - 180);
        Checks.due("by those of 3", x.compare(0, 3, 0), -180);
        Checks.due("by their own", x.compare(0, 0, 0), 0);
        Checks.due("1 by those of 0", x.compare(1, 0, 0), 50);
        Checks.due("nothing of a month by a minimum", x.compare(5, 2, 9), 1000);
        Checks.due("a minimum by nothing", x.compare(2, 5, 9), -1000);
        Checks.due("sum is as before", x.sum(0, 0), 180);
        Checks.refused("owner -1", IllegalArgumentException.class, () -> x.compare(-1, 0, 0));
        Checks.refused("owner 8", IllegalArgumentException.class, () -> x.compare(8, 0, 0));
        Checks.refused("other -1", IllegalArgumentException.class, () -> x.compare(0, -1, 0));
        Checks.refused("other 8", IllegalArgumentException.class, () -> x.compare(0, 8, 0));
        Checks.refused("month -1", IllegalArgumentException.class, () -> x.compare(0, 0, -1));
        Checks.refused("month 120", IllegalArgumentException.class, () -> x.compare(0, 0, 120));
    }

    private static void greatestSum() {
        StorageCharge x = Checks.charged("S 0 4 10000\nH 0 0 10000\nV 0 720 99\nV 0 721 100\n");
        for (int i = 0; i < 24; i++) {
            x.unit(0, 4, 0);
        }
        for (int i = 0; i < 60; i++) {
            x.move(0, 0, 15, 100);
        }
        Checks.due("days", x.days(0, 0), 720);
        Checks.due("sum", x.sum(0, 0), 72000 + 60000000);
        Checks.due("average", x.average(0, 0), 100);
        Checks.due("read", Checks.readOf(x, "S 0 4 10000\nH 0 0 10000\nV 0 721 100\n"), 3);
        Checks.due("sum without discount", x.sum(0, 0), 67200000);
        Checks.due("compare", x.compare(0, 1, 0), -67200000);
    }

    private static void refused() {
        StorageCharge x = new StorageCharge();
        int[][] wrong = {{-1, 0}, {8, 0}, {0, -1}, {0, 120}, {Integer.MAX_VALUE, 0},
            {0, Integer.MIN_VALUE}};
        for (int[] w : wrong) {
            Checks.refused("sum", IllegalArgumentException.class, () -> x.sum(w[0], w[1]));
            Checks.refused("days", IllegalArgumentException.class, () -> x.days(w[0], w[1]));
        }
    }
}
