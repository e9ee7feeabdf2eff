/** The boundary sentences on sums: promises 7 to 10 (move, sum, days, average) and 15 (compare). */
public final class SumEdgeTest {
    public static void main(String[] args) {
        daysOfAMonth();
        unitsOfTheOwnerAlone();
        noCentsTold();
        daysNoMoreThanUnitDays();
        mostDaysOfTheDiscounts();
        mostUnitDays();
        percentsAtTheirEdges();
        restsOfADiscount();
        discountOfStorageAlone();
        handlingOnTheMonthsDays();
        piecesTimesCents();
        minimumAtLeast();
        greatestSum();
        sumAsksAlone();
        daysOfAnOwner();
        averageOfDiscountedStorage();
        restsOfAnAverage();
        noUnitDays();
        allChargesOfAnother();
        compareWithThemselves();
        compareAtTheEdges();
        Checks.end();
    }

    private static void daysOfAMonth() {
        Checks.sentence("MONTH m (0 .. 119) has the days 30 * m .. 30 * m + 29");
        for (int month : new int[] {0, 1, 59, 118, 119}) {
            for (int day : new int[] {30 * month, 30 * month + 29}) {
                StorageCharge x = Checks.charged("S 0 0 7\nH 0 0 2\n");
                x.unit(0, 0, day);
                x.gone(0, day);
                x.move(0, 0, day, 1);
                for (int m = Math.max(0, month - 1); m <= Math.min(119, month + 1); m++) {
                    String of = " of month " + m + ", day " + day;
                    Checks.due("days" + of, x.days(0, m), m == month ? 1 : 0);
                    Checks.due("sum" + of, x.sum(0, m), m == month ? 9 : 0);
                }
            }
        }
    }

    private static void unitsOfTheOwnerAlone() {
        Checks.sentence("THE SUM of an owner for a month");
        StorageCharge x = Checks.charged("S 0 0 1\nS 7 0 100\nH 0 0 5\nH 7 0 500\nM 6 3\nV 7 1 100\n");
        x.unit(0, 0, 0);
        x.move(0, 0, 0, 1);
        Checks.due("owner 0", x.sum(0, 0), 35);
        Checks.due("owner 7", x.sum(7, 0), 0);
        Checks.due("owner 6", x.sum(6, 0), 3);
        Checks.due("days of owner 7", x.days(7, 0), 0);
    }

    private static void noCentsTold() {
        Checks.sentence("the cents of its class on that day, 0 if none are told");
        StorageCharge x = Checks.charged("S 0 1 5\nS 1 0 9\nH 0 1 5\nV 0 60 50\n");
        x.unit(0, 0, 0);
        Checks.due("none of the class, though of others", x.sum(0, 0), 0);
        Checks.due("its days count", x.days(0, 0), 30);
        x.unit(0, 1, 0);
        Checks.due("they count for a discount, too", x.sum(0, 0), 75);
        x.move(0, 0, 0, 100);
        Checks.due("none of the kind", x.sum(0, 0), 75);
        StorageCharge y = Checks.charged("S 0 0 0\n");
        y.unit(0, 0, 0);
        Checks.due("0 is told", y.sum(0, 0), 0);
    }

    private static void daysNoMoreThanUnitDays() {
        Checks.sentence("with a discount whose days are no more than these unit-days");
        int[][] due = {{29, 15}, {30, 15}, {31, 30}, {1, 15}, {9000, 30}};
        for (int[] d : due) {
            StorageCharge x = Checks.charged("S 0 0 1\nV 0 " + d[0] + " 50\n");
            x.unit(0, 0, 0);
            Checks.due("30 unit-days, days " + d[0], x.sum(0, 0), d[1]);
            Checks.due("no unit-days, days " + d[0], x.sum(1, 0), 0);
        }
        StorageCharge y = Checks.charged("S 0 0 10\nV 0 1 10\n");
        y.unit(0, 0, 29);
        Checks.due("one unit-day, days 1", y.sum(0, 0), 9);
    }

    private static void mostDaysOfTheDiscounts() {
        Checks.sentence("of these the one with the most days");
        String[] orders = {"V 0 10 1\nV 0 20 90\nV 0 30 40\nV 0 31 99\n",
            "V 0 31 99\nV 0 30 40\nV 0 20 90\nV 0 10 1\n", "V 0 20 90\nV 0 30 40\nV 0 31 99\nV 0 10 1\n"};
        for (String discounts : orders) {
            StorageCharge x = Checks.charged("S 0 0 100\n" + discounts);
            x.unit(0, 0, 0);
            Checks.due("30 unit-days", x.sum(0, 0), 1800);
            x.unit(0, 1, 29);
            Checks.due("31 unit-days", x.sum(0, 0), 30);
            x.gone(0, 18);
            Checks.due("20 unit-days", x.sum(0, 0), 190);
        }
        StorageCharge y = Checks.charged("S 0 0 100\nV 0 30 100\nV 1 30 50\nV 0 31 0\n");
        y.unit(0, 0, 0);
        Checks.due("those of other owners are none", y.sum(0, 0), 0);
        y.unit(0, 1, 29);
        Checks.due("0 percent of the most days", y.sum(0, 0), 3000);
    }

    private static void mostUnitDays() {
        Checks.sentence("with a discount whose days are no more than these unit-days");
        StorageCharge x = Checks.charged("S 0 0 1\nV 0 720 50\nV 0 721 100\n");
        for (int i = 0; i < 24; i++) {
            x.unit(0, 0, 0);
        }
        Checks.due("720 unit-days, the most there are", x.sum(0, 0), 360);
        x.gone(23, 28);
        Checks.due("719 unit-days", x.sum(0, 0), 719);
        Checks.due("690 unit-days of the next month", x.sum(0, 1), 690);
    }

    private static void percentsAtTheirEdges() {
        Checks.sentence("percent 0 .. 100");
        StorageCharge x = Checks.charged("S 0 0 10000\nV 0 1 0\nV 0 30 100\nM 0 1\n");
        x.unit(0, 0, 29);
        Checks.due("0", x.sum(0, 0), 10000);
        Checks.due("100, but the minimum at least", x.sum(0, 1), 1);
        Checks.due("average of 100", x.average(0, 1), 0);
    }

    private static void restsOfADiscount() {
        Checks.sentence("less by percent hundredths of it (of these rests are dropped)");
        int[][] due = {{1, 1, 1}, {1, 99, 1}, {1, 100, 0}, {99, 1, 99}, {100, 1, 99}, {101, 1, 100},
            {199, 1, 198}, {3, 33, 3}, {4, 33, 3}, {10000, 99, 100}, {9999, 99, 100}, {3, 67, 1}};
        for (int[] d : due) {
            StorageCharge x = Checks.charged("S 0 0 " + d[0] + "\nV 0 1 " + d[1] + "\n");
            x.unit(0, 0, 29);
            Checks.due(d[0] + " less " + d[1] + " percent", x.sum(0, 0), d[2]);
        }
        StorageCharge y = Checks.charged("S 0 0 1\nV 0 1 50\n");
        y.unit(0, 0, 27);
        Checks.due("dropped once for the month, not for each day", y.sum(0, 0), 2);
        y.unit(0, 0, 27);
        Checks.due("nor for each unit", y.sum(0, 0), 3);
    }

    private static void discountOfStorageAlone() {
        Checks.sentence("STORAGE: .. it is less by percent hundredths of it; HANDLING: ..");
        StorageCharge x = Checks.charged("S 0 0 10\nH 0 0 10\nV 0 1 100\n");
        x.unit(0, 0, 29);
        x.move(0, 0, 29, 1);
        Checks.due("handling is not less", x.sum(0, 0), 10);
    }

    private static void handlingOnTheMonthsDays() {
        Checks.sentence("for each of the owner's moves on the month's days");
        StorageCharge x = Checks.charged("H 0 0 1\nH 1 0 1\n");
        int[] days = {0, 29, 30, 59, 60, 3569, 3570, 3599};
        for (int i = 0; i < days.length; i++) {
            x.move(0, 0, days[i], 1 << Math.min(i, 6));
        }
        x.move(1, 0, 0, 100);
        Checks.due("month 0", x.sum(0, 0), 1 + 2);
        Checks.due("month 1", x.sum(0, 1), 4 + 8);
        Checks.due("month 2", x.sum(0, 2), 16);
        Checks.due("month 3", x.sum(0, 3), 0);
        Checks.due("month 118", x.sum(0, 118), 32);
        Checks.due("month 119", x.sum(0, 119), 64 + 64);
    }

    private static void piecesTimesCents() {
        Checks.sentence("its pieces times the cents of its kind");
        StorageCharge x = Checks.charged("H 0 0 0\nH 0 1 1\nH 0 4 10000\n");
        x.move(0, 0, 0, 100);
        Checks.due("of 0 cents", x.sum(0, 0), 0);
        x.move(0, 1, 0, 1);
        Checks.due("the least", x.sum(0, 0), 1);
        x.move(0, 4, 0, 100);
        Checks.due("the most", x.sum(0, 0), 1000001);
        x.move(0, 2, 0, 100);
        Checks.due("of a kind without cents", x.sum(0, 0), 1000001);
    }

    private static void minimumAtLeast() {
        Checks.sentence("both together, but the minimum at least, if one is told");
        StorageCharge x = Checks.charged("S 0 0 10\nH 0 0 1\nM 0 20\n");
        Checks.due("of nothing", x.sum(0, 0), 20);
        Checks.due("of nothing, the last month", x.sum(0, 119), 20);
        x.unit(0, 0, 29);
        x.gone(0, 29);
        x.move(0, 0, 0, 9);
        Checks.due("one below", x.sum(0, 0), 20);
        x.move(0, 0, 0, 1);
        Checks.due("the same", x.sum(0, 0), 20);
        x.move(0, 0, 0, 1);
        Checks.due("one above", x.sum(0, 0), 21);
        Checks.due("another owner has none", x.sum(1, 0), 0);
        Checks.due("read", Checks.readOf(x, "M 0 0\nM 1 10000\n"), 2);
        Checks.due("a minimum of 0", x.sum(0, 0), 0);
        Checks.due("the greatest minimum", x.sum(1, 0), 10000);
    }

    private static void greatestSum() {
        Checks.sentence("CENTS are 0 .. 10000; at most 24; at most 60; pieces 1 .. 100");
        StorageCharge x = Checks.charged("S 0 4 10000\nH 0 4 10000\nV 0 721 100\n");
        for (int i = 0; i < 24; i++) {
            x.unit(0, 4, 0);
        }
        for (int i = 0; i < 60; i++) {
            x.move(0, 4, 0, 100);
        }
        Checks.due("the greatest", x.sum(0, 0), 7200000 + 60000000);
        Checks.due("average", x.average(0, 0), 10000);
        Checks.due("read", Checks.readOf(x, "S 0 4 10000\nH 0 4 10000\nV 0 720 100\n"), 3);
        Checks.due("all of the greatest storage less", x.sum(0, 0), 60000000);
        Checks.due("read", Checks.readOf(x, "S 0 4 10000\nV 0 1 99\n"), 2);
        Checks.due("nearly all of it", x.sum(0, 0), 72000);
    }

    private static void sumAsksAlone() {
        Checks.sentence("The sum.");
        StorageCharge x = Checks.charged("S 0 0 10\nM 1 5\n");
        x.unit(0, 0, 0);
        String before = Checks.stateOf(x);
        x.sum(0, 0);
        x.days(0, 0);
        x.average(0, 0);
        x.compare(0, 1, 0);
        x.billed(0);
        Checks.due("state behind asking", Checks.stateOf(x), before);
        Checks.due("the same again", x.sum(0, 0), 300);
    }

    private static void daysOfAnOwner() {
        Checks.sentence("An owner's unit-days of a month.");
        StorageCharge x = new StorageCharge();
        Checks.due("no unit", x.days(0, 0), 0);
        for (int i = 0; i < 12; i++) {
            x.unit(0, 0, 0);
            x.unit(7, 0, 29);
        }
        Checks.due("twelve units", x.days(0, 0), 360);
        Checks.due("twelve on its last day", x.days(7, 0), 12);
        x.change(0, 4, 10);
        Checks.due("a change makes no more days", x.days(0, 0), 360);
        x.gone(0, 10);
        Checks.due("one is gone", x.days(0, 0), 341);
        Checks.due("the month behind", x.days(0, 1), 330);
        Checks.due("no unit of the owner", x.days(3, 0), 0);
        Checks.due("the last month", x.days(7, 119), 360);
    }

    private static void averageOfDiscountedStorage() {
        Checks.sentence("Storage (discounted) of a month divided by its unit-days");
        StorageCharge x = Checks.charged("S 0 0 100\nH 0 0 10000\nM 0 10000\nV 0 31 25\n");
        x.unit(0, 0, 0);
        x.move(0, 0, 0, 100);
        Checks.due("neither handling nor the minimum", x.average(0, 0), 100);
        x.unit(0, 0, 29);
        Checks.due("discounted", x.average(0, 0), 75);
    }

    private static void restsOfAnAverage() {
        Checks.sentence("(rests are dropped)");
        StorageCharge x = Checks.charged("S 0 0 1\nS 0 1 2\n");
        x.unit(0, 0, 0);
        x.unit(0, 1, 1);
        Checks.due("88 by 59", x.average(0, 0), 1);
        StorageCharge y = Checks.charged("S 0 0 1\nV 0 1 4\n");
        y.unit(0, 0, 0);
        Checks.due("29 by 30", y.average(0, 0), 0);
        StorageCharge z = Checks.charged("S 0 0 9999\nS 0 1 10000\n");
        z.unit(0, 0, 29);
        z.unit(0, 1, 29);
        Checks.due("19999 by 2", z.average(0, 0), 9999);
    }

    private static void noUnitDays() {
        Checks.sentence("ArithmeticException (the machine's own): there are none.");
        StorageCharge x = Checks.charged("S 0 0 1\nM 0 5\nH 0 0 5\n");
        Checks.refusedWithoutTrace("no unit", x, ArithmeticException.class, () -> x.average(0, 0));
        x.move(0, 0, 0, 1);
        x.unit(1, 0, 0);
        x.unit(0, 0, 60);
        x.gone(1, 89);
        Checks.refused("a move and a minimum alone", ArithmeticException.class, () -> x.average(0, 0));
        Checks.refused("the month before", ArithmeticException.class, () -> x.average(0, 1));
        Checks.due("the month", x.average(0, 2), 1);
        Checks.refused("the month behind", ArithmeticException.class, () -> x.average(0, 3));
        x.unit(0, 0, 149);
        Checks.due("one unit-day is enough", x.average(0, 4), 1);
        Checks.due("days", x.days(0, 4), 1);
        Checks.due("days without cents", x.average(1, 119), 0);
    }

    private static void allChargesOfAnother() {
        Checks.sentence("if all charges of another owner were theirs (and not their own)");
        StorageCharge x = Checks.charged("S 0 0 10\nS 0 1 10\nH 0 0 10\nM 0 2000\nV 0 1 50\n"
                + "S 1 0 20\nH 1 1 7\nM 2 5000\nV 3 60 50\nS 3 0 1\nV 4 61 50\nS 4 0 1\n");
        x.unit(0, 0, 0);
        x.unit(0, 1, 0);
        x.move(0, 0, 0, 1);
        x.move(0, 1, 0, 1);
        x.unit(1, 0, 0);
        Checks.due("their sum, the minimum", x.sum(0, 0), 2000);
        Checks.due("other cents, no minimum, no discount", x.compare(0, 1, 0), 607 - 2000);
        Checks.due("a minimum", x.compare(0, 2, 0), 5000 - 2000);
        Checks.due("a discount by their own unit-days", x.compare(0, 3, 0), 15 - 2000);
        Checks.due("a discount of one day more", x.compare(0, 4, 0), 30 - 2000);
        Checks.due("no charges", x.compare(0, 7, 0), -2000);
        Checks.due("the other way", x.compare(1, 0, 0), 2000 - 600);
        Checks.due("their sum is as it was", x.sum(0, 0), 2000);
    }

    private static void compareWithThemselves() {
        Checks.sentence("less their sum");
        StorageCharge x = Checks.charged("S 0 0 10\nM 0 7\n");
        x.unit(0, 0, 0);
        Checks.due("by their own", x.compare(0, 0, 0), 0);
        Checks.due("by none, of nothing", x.compare(5, 6, 0), 0);
        Checks.due("their own of nothing", x.compare(7, 7, 119), 0);
    }

    private static void compareAtTheEdges() {
        Checks.sentence("What an owner's sum for a month would be .., less their sum.");
        StorageCharge x = Checks.charged("S 0 4 10000\nH 0 4 10000\nM 7 10000\n");
        for (int i = 0; i < 24; i++) {
            x.unit(0, 4, 0);
        }
        for (int i = 0; i < 60; i++) {
            x.move(0, 4, 3599, 100);
        }
        Checks.due("the least", x.compare(0, 1, 119), -67200000);
        Checks.due("a minimum instead", x.compare(0, 7, 119), 10000 - 67200000);
        Checks.due("another month", x.compare(0, 1, 118), -7200000);
        Checks.due("read", Checks.readOf(x, "S 1 4 10000\nH 1 4 10000\n"), 2);
        Checks.due("the greatest", x.compare(0, 1, 119), 67200000);
    }
}
