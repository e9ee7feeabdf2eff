/** The boundary sentences on units and moves: promises 4 (unit), 5 (change), 6 (gone) and 7 (move). */
public final class UnitEdgeTest {
    public static void main(String[] args) {
        atMost24Units();
        unitsAsTheyCome();
        thereFromADayOn();
        thereUpToADayCounted();
        thereStill();
        greaterClassOfTheDay();
        greaterClassOfSeveral();
        classesAtTheEdgesOfMonths();
        anotherClassThanToldLast();
        tellingOfTheSameIsOne();
        toldEightTimes();
        refusedTellingsAreNone();
        changeOfAGoneUnit();
        changeBeforeTheLastDayTold();
        daysItWasThere();
        goneTwice();
        goneBeforeTheLastDayTold();
        atMost60Moves();
        movesOfTheOwner();
        Checks.end();
    }

    private static void atMost24Units() {
        Checks.sentence("UNITS 0, 1, .. (at most 24, as they come)");
        StorageCharge x = new StorageCharge();
        for (int i = 0; i < 24; i++) {
            Checks.due("unit", x.unit(i % 8, i % 5, 3599 - i), i);
        }
        Checks.due("units", x.count(2), 24);
        Class<UnsupportedOperationException> noRoom = UnsupportedOperationException.class;
        Checks.refusedWithoutTrace("unit 24", x, noRoom, () -> x.unit(0, 0, 0));
        x.gone(0, 3599);
        Checks.refusedWithoutTrace("one that is gone makes no room", x, noRoom, () -> x.unit(7, 4, 3599));
        Checks.due("units", x.count(2), 24);
        Checks.due("the last one can be told of", x.change(23, 0, 3599), true);
    }

    private static void unitsAsTheyCome() {
        Checks.sentence("A unit is there from a day on: its number.");
        StorageCharge x = new StorageCharge();
        Checks.due("the last day first", x.unit(7, 4, 3599), 0);
        Checks.refused("owner 8", IllegalArgumentException.class, () -> x.unit(8, 0, 0));
        Checks.due("a refused one has no number", x.unit(0, 0, 0), 1);
        x.gone(1, 0);
        Checks.due("the number of a gone one is not used again", x.unit(0, 0, 0), 2);
    }

    private static void thereFromADayOn() {
        Checks.sentence("are there from a day on");
        StorageCharge x = new StorageCharge();
        x.unit(0, 0, 0);
        x.unit(1, 0, 29);
        x.unit(2, 0, 30);
        x.unit(3, 0, 3569);
        x.unit(4, 0, 3570);
        x.unit(5, 0, 3599);
        int[][] due = {{0, 0, 30}, {0, 1, 30}, {1, 0, 1}, {1, 1, 30}, {2, 0, 0}, {2, 1, 30},
            {3, 117, 0}, {3, 118, 1}, {3, 119, 30}, {4, 118, 0}, {4, 119, 30}, {5, 118, 0}, {5, 119, 1}};
        for (int[] d : due) {
            Checks.due("days of owner " + d[0] + ", month " + d[1], x.days(d[0], d[1]), d[2]);
        }
    }

    private static void thereUpToADayCounted() {
        Checks.sentence("up to a day (counted)");
        int[][] due = {{0, 1, 0}, {28, 29, 0}, {29, 30, 0}, {30, 30, 1}, {59, 30, 30}, {60, 30, 30}};
        for (int[] d : due) {
            StorageCharge x = Checks.charged("S 0 0 1\n");
            x.unit(0, 0, 0);
            x.gone(0, d[0]);
            Checks.due("days of month 0, gone " + d[0], x.days(0, 0), d[1]);
            Checks.due("days of month 1, gone " + d[0], x.days(0, 1), d[2]);
            Checks.due("sum of month 0, gone " + d[0], x.sum(0, 0), d[1]);
            Checks.due("sum of month 1, gone " + d[0], x.sum(0, 1), d[2]);
        }
    }

    private static void thereStill() {
        Checks.sentence("on which it is there (still: on all later days)");
        StorageCharge x = Checks.charged("S 0 0 1\nS 0 1 2\n");
        x.unit(0, 0, 0);
        for (int month = 0; month < 120; month++) {
            Checks.due("month " + month, x.sum(0, month), 30);
        }
        x.change(0, 1, 3599);
        Checks.due("the last month", x.sum(0, 119), 29 + 2);
        Checks.due("the month before", x.sum(0, 118), 30);
        x.gone(0, 3599);
        Checks.due("gone on the very last day", x.sum(0, 119), 29 + 2);
    }

    private static void greaterClassOfTheDay() {
        Checks.sentence("On a day on which a unit's class changes the greater class counts.");
        StorageCharge up = Checks.charged("S 0 1 100\nS 0 3 1\n");
        up.unit(0, 1, 0);
        up.change(0, 3, 10);
        Checks.due("up: the greater class, not the greater cents", up.sum(0, 0), 10 * 100 + 20);
        StorageCharge down = Checks.charged("S 0 1 100\nS 0 3 1\n");
        down.unit(0, 3, 0);
        down.change(0, 1, 10);
        Checks.due("down", down.sum(0, 0), 11 + 19 * 100);
        StorageCharge first = Checks.charged("S 0 0 1\nS 0 4 100\n");
        first.unit(0, 4, 29);
        first.change(0, 0, 29);
        Checks.due("down on its first day", first.sum(0, 0), 100);
        Checks.due("the day behind", first.sum(0, 1), 30);
        StorageCharge last = Checks.charged("S 0 0 1\nS 0 4 100\n");
        last.unit(0, 4, 0);
        last.change(0, 0, 29);
        last.gone(0, 29);
        Checks.due("down on its last day", last.sum(0, 0), 30 * 100);
        StorageCharge untold = Checks.charged("S 0 0 1\n");
        untold.unit(0, 0, 0);
        untold.change(0, 4, 29);
        Checks.due("a greater class without cents", untold.sum(0, 0), 29);
    }

    private static void greaterClassOfSeveral() {
        Checks.sentence("On a day on which a unit's class changes the greater class counts.");
        String rates = "S 0 0 1\nS 0 1 10\nS 0 2 100\nS 0 3 1000\n";
        StorageCharge x = Checks.charged(rates);
        x.unit(0, 2, 28);
        x.change(0, 0, 29);
        x.change(0, 1, 29);
        Checks.due("the one before is the greatest", x.sum(0, 0), 200);
        Checks.due("the last one from then on", x.sum(0, 1), 300);
        StorageCharge y = Checks.charged(rates);
        y.unit(0, 0, 28);
        y.change(0, 3, 29);
        y.change(0, 1, 29);
        Checks.due("one between is the greatest", y.sum(0, 0), 1001);
        Checks.due("the last one from then on", y.sum(0, 1), 300);
        StorageCharge z = Checks.charged(rates);
        z.unit(0, 3, 27);
        z.change(0, 1, 28);
        z.change(0, 1, 29);
        Checks.due("the same class again is no change", z.sum(0, 0), 1000 + 1000 + 10);
        StorageCharge same = Checks.charged(rates);
        same.unit(0, 2, 28);
        same.change(0, 1, 29);
        same.change(0, 1, 29);
        Checks.due("told twice on its day", same.sum(0, 0), 200);
    }

    private static void classesAtTheEdgesOfMonths() {
        Checks.sentence("On a day on which a unit's class changes the greater class counts.");
        StorageCharge x = Checks.charged("S 0 0 1\nS 0 4 100\n");
        x.unit(0, 4, 0);
        x.change(0, 0, 30);
        Checks.due("before", x.sum(0, 0), 3000);
        Checks.due("down on a month's first day", x.sum(0, 1), 100 + 29);
        x.change(0, 4, 89);
        Checks.due("up on a month's last day", x.sum(0, 2), 29 + 100);
        Checks.due("behind", x.sum(0, 3), 3000);
    }

    private static void anotherClassThanToldLast() {
        Checks.sentence("A unit has a class from a day on: whether it is another one than that told last");
        StorageCharge x = new StorageCharge();
        x.unit(0, 2, 0);
        Checks.due("the class it came with", x.change(0, 2, 0), false);
        Checks.due("another one", x.change(0, 4, 0), true);
        Checks.due("that one", x.change(0, 4, 0), false);
        Checks.due("the first one, not told last", x.change(0, 2, 0), true);
        Checks.due("class 0", x.change(0, 0, 3599), true);
        Checks.due("class 0 again", x.change(0, 0, 3599), false);
    }

    private static void tellingOfTheSameIsOne() {
        Checks.sentence("(a telling of the same one is one, too)");
        StorageCharge x = new StorageCharge();
        x.unit(0, 2, 0);
        Checks.due("the same one", x.change(0, 2, 50), false);
        Checks.refused("its day is the last one told", IllegalStateException.class,
                () -> x.change(0, 3, 49));
        Checks.refused("for gone, too", IllegalStateException.class, () -> x.gone(0, 49));
        for (int i = 2; i <= 8; i++) {
            Checks.due("the same one, " + i, x.change(0, 2, 50), false);
        }
        Checks.refused("it takes room", UnsupportedOperationException.class, () -> x.change(0, 2, 50));
    }

    private static void toldEightTimes() {
        Checks.sentence("UnsupportedOperationException: that was told eight times");
        StorageCharge x = Checks.charged("S 0 0 1\nS 0 1 10\n");
        x.unit(0, 0, 0);
        x.unit(0, 0, 3599);
        for (int i = 1; i <= 8; i++) {
            Checks.due("telling " + i, x.change(0, i % 2, 20 + i), true);
        }
        Checks.refusedWithoutTrace("telling 9", x, UnsupportedOperationException.class,
                () -> x.change(0, 1, 28));
        Checks.refusedWithoutTrace("telling 9 of the same", x, UnsupportedOperationException.class,
                () -> x.change(0, 0, 3599));
        Checks.due("all eight count", x.sum(0, 0), 21 + 8 * 10 + 1);
        Checks.due("another unit has its own", x.change(1, 1, 3599), true);
        Checks.due("gone needs no room", x.gone(0, 28), 29);
    }

    private static void refusedTellingsAreNone() {
        Checks.sentence("UnsupportedOperationException: that was told eight times");
        StorageCharge x = new StorageCharge();
        x.unit(0, 0, 10);
        for (int i = 0; i < 9; i++) {
            Checks.refused("class 5", IllegalArgumentException.class, () -> x.change(0, 5, 10));
            Checks.refused("day before", IllegalStateException.class, () -> x.change(0, 1, 9));
        }
        for (int i = 1; i <= 8; i++) {
            Checks.due("telling " + i, x.change(0, i % 2, 10), true);
        }
    }

    private static void changeOfAGoneUnit() {
        Checks.sentence("IllegalStateException: it is gone");
        StorageCharge x = Checks.charged("S 0 0 1\nS 0 1 10\n");
        x.unit(0, 0, 5);
        x.unit(0, 0, 5);
        x.gone(0, 10);
        Class<IllegalStateException> state = IllegalStateException.class;
        Checks.refusedWithoutTrace("on its last day", x, state, () -> x.change(0, 1, 10));
        Checks.refusedWithoutTrace("behind it", x, state, () -> x.change(0, 1, 11));
        Checks.refused("on the last day of all", state, () -> x.change(0, 1, 3599));
        Checks.refused("on its first day", state, () -> x.change(0, 1, 5));
        Checks.refused("the same class", state, () -> x.change(0, 0, 10));
        Checks.due("sum", x.sum(0, 0), 6 + 25);
        Checks.due("another unit is not gone", x.change(1, 1, 5), true);
    }

    private static void changeBeforeTheLastDayTold() {
        Checks.sentence("or the day is before the last one told of it");
        StorageCharge x = new StorageCharge();
        x.unit(0, 0, 100);
        x.unit(0, 0, 200);
        Class<IllegalStateException> state = IllegalStateException.class;
        Checks.refusedWithoutTrace("the day before it came", x, state, () -> x.change(0, 1, 99));
        Checks.refused("day 0", state, () -> x.change(0, 1, 0));
        Checks.due("the day it came", x.change(0, 1, 100), true);
        Checks.due("a later day", x.change(0, 2, 150), true);
        Checks.refusedWithoutTrace("the day before that", x, state, () -> x.change(0, 1, 149));
        Checks.due("that day", x.change(0, 1, 150), true);
        Checks.due("the last day of all", x.change(0, 2, 3599), true);
        Checks.refused("the day before", state, () -> x.change(0, 1, 3598));
        Checks.due("the other unit has its own days", x.change(1, 1, 200), true);
    }

    private static void daysItWasThere() {
        Checks.sentence("A unit is gone; the day counts as its last: how many days it was there.");
        StorageCharge x = new StorageCharge();
        x.unit(0, 0, 0);
        x.unit(0, 0, 0);
        x.unit(0, 0, 3599);
        x.unit(0, 0, 29);
        x.unit(0, 0, 100);
        Checks.due("all days", x.gone(0, 3599), 3600);
        Checks.due("its first day", x.gone(1, 0), 1);
        Checks.due("the last day of all", x.gone(2, 3599), 1);
        Checks.due("over the edge of a month", x.gone(3, 30), 2);
        x.change(4, 1, 150);
        Checks.due("from the day it came, not the last one told", x.gone(4, 199), 100);
        Checks.due("there still", x.count(3), 0);
        Checks.due("units", x.count(2), 5);
    }

    private static void goneTwice() {
        Checks.sentence("IllegalStateException: it is");
        StorageCharge x = new StorageCharge();
        x.unit(0, 0, 5);
        x.unit(0, 0, 5);
        x.gone(0, 10);
        Checks.refusedWithoutTrace("on the same day", x, IllegalStateException.class, () -> x.gone(0, 10));
        Checks.refusedWithoutTrace("earlier", x, IllegalStateException.class, () -> x.gone(0, 5));
        Checks.refused("later", IllegalStateException.class, () -> x.gone(0, 3599));
        Checks.due("days", x.days(0, 0), 6 + 25);
        Checks.due("the other one is there still", x.count(3), 1);
        Checks.due("the other one", x.gone(1, 5), 1);
    }

    private static void goneBeforeTheLastDayTold() {
        Checks.sentence("or the day is before the last one told of it");
        StorageCharge x = new StorageCharge();
        x.unit(0, 0, 5);
        x.unit(0, 0, 5);
        x.change(1, 1, 8);
        Checks.refusedWithoutTrace("before it came", x, IllegalStateException.class, () -> x.gone(0, 4));
        Checks.refusedWithoutTrace("before the change", x, IllegalStateException.class,
                () -> x.gone(1, 7));
        Checks.due("the day it came", x.gone(0, 5), 1);
        Checks.due("the day of the change", x.gone(1, 8), 4);
    }

    private static void atMost60Moves() {
        Checks.sentence("MOVES (at most 60)");
        StorageCharge x = Checks.charged("H 0 0 1\n");
        for (int i = 1; i <= 60; i++) {
            Checks.due("move " + i, x.move(0, 0, 0, 1), i);
        }
        Checks.refusedWithoutTrace("move 61", x, UnsupportedOperationException.class,
                () -> x.move(0, 0, 0, 1));
        Checks.refusedWithoutTrace("of an owner who has none", x, UnsupportedOperationException.class,
                () -> x.move(7, 4, 3599, 100));
        Checks.due("moves", x.count(4), 60);
        Checks.due("sum", x.sum(0, 0), 60);
    }

    private static void movesOfTheOwner() {
        Checks.sentence("A move: how many the owner has.");
        StorageCharge x = new StorageCharge();
        Checks.due("owner 0", x.move(0, 0, 3599, 1), 1);
        Checks.due("owner 7", x.move(7, 4, 0, 100), 1);
        Checks.refused("no pieces", IllegalArgumentException.class, () -> x.move(0, 0, 0, 0));
        Checks.due("a refused one is none", x.move(0, 4, 0, 1), 2);
        Checks.due("of another month and kind, too", x.move(0, 1, 1000, 7), 3);
        Checks.due("moves", x.count(4), 4);
    }
}
