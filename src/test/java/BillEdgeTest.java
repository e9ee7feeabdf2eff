import java.util.NoSuchElementException;

/** The boundary sentences on bills: promises 11 to 14 (bill .. billed) and 16 to 18 (print .. count). */
public final class BillEdgeTest {
    public static void main(String[] args) {
        billedAtItsSumNow();
        billedTwice();
        billsOfNothing();
        correctedBySumNow();
        correctedAgain();
        notBilled();
        linesAsTheyCame();
        noLineOfCorrectionsOfZero();
        linesThatThereAreNot();
        allThatWasBilled();
        mostThatIsBilled();
        printedForms();
        printedNumbers();
        printedOfNothing();
        printedLast();
        longestPaper();
        noSuchSign();
        countOfSigns();
        countOfLines();
        countOfUnits();
        countOfMoves();
        countOfPaper();
        countOfOwners();
        call512();
        callsBehindThe512th();
        Checks.end();
    }

    private static int linesOf(StorageCharge x, int owner) {
        int lines = 0;
        while (lines < 512) {
            int i = lines;
            if (Checks.thrownBy(() -> x.line(owner, i, 0)).equals("NoSuchElementException")) {
                return lines;
            }
            lines++;
        }
        return lines;
    }

    private static void dueLine(StorageCharge x, int owner, int i, int... due) {
        for (int what = 0; what < 3; what++) {
            Checks.due("line " + i + " of owner " + owner + ", " + what, x.line(owner, i, what), due[what]);
        }
    }

    private static void billedAtItsSumNow() {
        Checks.sentence("A month is billed to an owner, at its sum now: that.");
        StorageCharge x = Checks.charged("S 0 0 10\n");
        x.unit(0, 0, 29);
        Checks.due("bill", x.bill(0, 0), 10);
        Checks.due("the last month", x.bill(0, 119), 300);
        x.unit(0, 0, 29);
        Checks.due("the sum goes on", x.sum(0, 0), 20);
        Checks.due("the line does not", x.line(0, 0, 1), 10);
        Checks.due("billed does not", x.billed(0), 310);
    }

    private static void billedTwice() {
        Checks.sentence("IllegalStateException: it is.");
        StorageCharge x = Checks.charged("M 0 5\nM 7 9\n");
        x.bill(0, 0);
        x.bill(0, 119);
        x.print(0);
        Class<IllegalStateException> state = IllegalStateException.class;
        Checks.refusedWithoutTrace("month 0", x, state, () -> x.bill(0, 0));
        Checks.refused("month 119", state, () -> x.bill(0, 119));
        Checks.due("lines", linesOf(x, 0), 2);
        Checks.due("another month", x.bill(0, 1), 5);
        Checks.due("another owner", x.bill(7, 0), 9);
        Checks.readOf(x, "M 0 6\n");
        Checks.refused("at another sum", state, () -> x.bill(0, 0));
        x.correct(0, 0);
        Checks.refused("corrected", state, () -> x.bill(0, 0));
        Checks.due("lines", linesOf(x, 0), 4);
    }

    private static void billsOfNothing() {
        Checks.sentence("IllegalStateException: it is.");
        StorageCharge x = new StorageCharge();
        Checks.due("bill", x.bill(7, 119), 0);
        Checks.refused("a bill of 0 is one", IllegalStateException.class, () -> x.bill(7, 119));
        dueLine(x, 7, 0, 119, 0, 0);
        Checks.due("correct", x.correct(7, 119), 0);
        Checks.due("lines", linesOf(x, 7), 1);
        Checks.due("print", x.print(7), 8);
        Checks.due("paper", Checks.paper(x), "B 119 0\n");
    }

    private static void correctedBySumNow() {
        Checks.sentence("The sum now less what was billed (with earlier corrections)");
        StorageCharge x = Checks.charged("S 0 0 10\n");
        x.bill(0, 0);
        x.bill(0, 1);
        x.unit(0, 0, 0);
        Checks.due("more", x.correct(0, 0), 300);
        Checks.due("another month on its own", x.correct(0, 1), 300);
        x.gone(0, 14);
        Checks.due("less", x.correct(0, 0), -150);
        Checks.due("all of it", x.correct(0, 1), -300);
        x.unit(0, 0, 29);
        Checks.due("more again", x.correct(0, 0), 10);
        Checks.due("billed", x.billed(0), 160);
        Checks.due("another owner is not billed", x.billed(1), 0);
    }

    private static void correctedAgain() {
        Checks.sentence("it is billed, too, then");
        StorageCharge x = Checks.charged("M 0 5\n");
        x.bill(0, 0);
        Checks.due("nothing to correct", x.correct(0, 0), 0);
        Checks.readOf(x, "M 0 9\n");
        Checks.due("once", x.correct(0, 0), 4);
        Checks.due("not twice", x.correct(0, 0), 0);
        x.read();
        Checks.due("down to 0", x.correct(0, 0), -9);
        Checks.due("not twice", x.correct(0, 0), 0);
        Checks.due("billed", x.billed(0), 0);
        Checks.due("lines", linesOf(x, 0), 3);
    }

    private static void notBilled() {
        Checks.sentence("IllegalStateException: the month is not billed.");
        StorageCharge x = Checks.charged("M 0 5\nM 1 5\n");
        Class<IllegalStateException> state = IllegalStateException.class;
        Checks.refusedWithoutTrace("nothing billed", x, state, () -> x.correct(0, 0));
        x.bill(0, 1);
        x.bill(1, 0);
        Checks.refused("a month behind", state, () -> x.correct(0, 2));
        Checks.refused("a month before", state, () -> x.correct(0, 0));
        Checks.refused("another owner", state, () -> x.correct(1, 1));
        Checks.due("no line of these", linesOf(x, 0) + linesOf(x, 1), 2);
        Checks.due("a refused correction bills nothing", x.bill(0, 0), 5);
    }

    private static void linesAsTheyCame() {
        Checks.sentence("Of line i of an owner's bills and corrections, as they came");
        StorageCharge x = Checks.charged("M 0 5\nM 7 9\n");
        x.bill(0, 119);
        x.bill(7, 3);
        x.bill(0, 0);
        Checks.readOf(x, "M 0 4\n");
        x.correct(7, 3);
        x.correct(0, 0);
        x.bill(7, 2);
        x.correct(0, 119);
        dueLine(x, 0, 0, 119, 5, 0);
        dueLine(x, 0, 1, 0, 5, 0);
        dueLine(x, 0, 2, 0, -1, 1);
        dueLine(x, 0, 3, 119, -1, 1);
        dueLine(x, 7, 0, 3, 9, 0);
        dueLine(x, 7, 1, 3, -9, 1);
        dueLine(x, 7, 2, 2, 0, 0);
        Checks.due("lines of owner 0", linesOf(x, 0), 4);
        Checks.due("lines of owner 7", linesOf(x, 7), 3);
        Checks.due("lines of owner 6", linesOf(x, 6), 0);
    }

    private static void noLineOfCorrectionsOfZero() {
        Checks.sentence("whether it is a correction (of 0 none is a line)");
        StorageCharge x = Checks.charged("M 0 5\n");
        x.bill(0, 0);
        for (int i = 0; i < 5; i++) {
            Checks.due("correct", x.correct(0, 0), 0);
        }
        Checks.due("lines", linesOf(x, 0), 1);
        x.bill(0, 1);
        dueLine(x, 0, 1, 1, 5, 0);
        Checks.due("print", x.print(0), 12);
        Checks.due("paper", Checks.paper(x), "B 0 5\nB 1 5\n");
    }

    private static void linesThatThereAreNot() {
        Checks.sentence("NoSuchElementException: a unit or line that there is not");
        StorageCharge x = Checks.charged("M 0 5\n");
        Class<NoSuchElementException> none = NoSuchElementException.class;
        Checks.refusedWithoutTrace("of none", x, none, () -> x.line(0, 0, 0));
        x.bill(0, 0);
        x.bill(1, 0);
        x.bill(1, 1);
        Checks.due("the only one", x.line(0, 0, 1), 5);
        for (int i : new int[] {-1, 1, 2, 3, 512, Integer.MIN_VALUE, Integer.MAX_VALUE}) {
            Checks.refused("line " + i, none, () -> x.line(0, i, 0));
        }
        Checks.due("the last one of owner 1", x.line(1, 1, 0), 1);
        Checks.refused("behind it", none, () -> x.line(1, 2, 0));
    }

    private static void allThatWasBilled() {
        Checks.sentence("All that was billed to an owner, with corrections.");
        StorageCharge x = Checks.charged("M 0 5\nM 7 9\n");
        Checks.due("nothing", x.billed(0), 0);
        x.bill(0, 0);
        x.bill(0, 119);
        x.bill(7, 0);
        Checks.due("two bills", x.billed(0), 10);
        Checks.due("those of owner 7", x.billed(7), 9);
        Checks.readOf(x, "M 0 7\n");
        Checks.due("new charges alone bill nothing", x.billed(0), 10);
        x.correct(0, 119);
        x.correct(7, 0);
        Checks.due("a correction", x.billed(0), 12);
        Checks.due("one below 0", x.billed(7), 0);
        Checks.due("no bill", x.billed(3), 0);
    }

    private static void mostThatIsBilled() {
        Checks.sentence("All that was billed to an owner, with corrections.");
        StorageCharge x = Checks.charged("S 7 4 10000\nH 7 4 10000\n");
        for (int i = 0; i < 24; i++) {
            x.unit(7, 4, 0);
        }
        for (int i = 0; i < 60; i++) {
            x.move(7, 4, 3599, 100);
        }
        for (int month = 0; month < 120; month++) {
            x.bill(7, month);
        }
        Checks.due("the greatest", x.billed(7), 120 * 7200000 + 60000000);
        Checks.due("the greatest line", x.line(7, 119, 1), 67200000);
        x.read();
        for (int month = 0; month < 120; month++) {
            x.correct(7, month);
        }
        Checks.due("all corrected", x.billed(7), 0);
        Checks.due("the least line", x.line(7, 239, 1), -67200000);
    }

    private static void printedForms() {
        Checks.sentence("for each B or C (a correction), the month, the cents, one blank (32) before each");
        StorageCharge x = Checks.charged("M 0 5\n");
        x.bill(0, 0);
        Checks.readOf(x, "M 0 7\n");
        x.correct(0, 0);
        x.read();
        x.correct(0, 0);
        int[] due = {66, 32, 48, 32, 53, 10, 67, 32, 48, 32, 50, 10, 67, 32, 48, 32, 45, 55, 10};
        Checks.due("print", x.print(0), due.length);
        for (int i = 0; i < due.length; i++) {
            Checks.due("at " + i, x.at(i), due[i]);
        }
        Checks.due("count", x.count(5), due.length);
    }

    private static void printedNumbers() {
        Checks.sentence("the month, the cents, .. - (45) before a number below 0");
        int[] months = {0, 9, 10, 11, 99, 100, 109, 119};
        int[] cents = {0, 1, 9, 10, 99, 100, 1000, 9999, 10000};
        for (int number : cents) {
            StorageCharge x = Checks.charged("M 0 " + number + "\n");
            StringBuilder due = new StringBuilder();
            for (int month : months) {
                x.bill(0, month);
                due.append("B ").append(month).append(' ').append(number).append('\n');
            }
            x.read();
            for (int month : months) {
                x.correct(0, month);
                due.append(number == 0 ? "" : "C " + month + " -" + number + "\n");
            }
            Checks.due("print", x.print(0), due.length());
            Checks.due("paper", Checks.paper(x), due.toString());
        }
    }

    private static void printedOfNothing() {
        Checks.sentence("An owner's lines are printed: .. how many signs.");
        StorageCharge x = Checks.charged("M 0 5\n");
        Checks.due("no line", x.print(0), 0);
        x.bill(0, 0);
        Checks.due("no line of owner 1", x.print(1), 0);
        Checks.due("one line", x.print(0), 6);
        Checks.due("the same again", x.print(0), 6);
        Checks.due("paper is not longer", Checks.paper(x), "B 0 5\n");
        Checks.due("lines are there still", linesOf(x, 0), 1);
    }

    private static void printedLast() {
        Checks.sentence("Sign i of what was printed last.");
        StorageCharge x = Checks.charged("M 0 5\nM 1 77\n");
        x.bill(0, 0);
        x.bill(0, 1);
        x.bill(1, 119);
        x.print(0);
        x.bill(0, 2);
        Checks.due("a bill later is not on it", Checks.paper(x), "B 0 5\nB 1 5\n");
        Checks.refused("print 8", IllegalArgumentException.class, () -> x.print(8));
        Checks.refused("print -1", IllegalArgumentException.class, () -> x.print(-1));
        Checks.due("a refused print leaves it", Checks.paper(x), "B 0 5\nB 1 5\n");
        Checks.due("a shorter one", x.print(1), 9);
        Checks.due("the shorter one alone", Checks.paper(x), "B 119 77\n");
        Checks.refused("no sign of the longer one", ArrayIndexOutOfBoundsException.class, () -> x.at(9));
        x.print(7);
        Checks.refused("none of nothing", ArrayIndexOutOfBoundsException.class, () -> x.at(0));
    }

    private static void longestPaper() {
        Checks.sentence("An owner's lines are printed: .. how many signs.");
        String rate = "S 0 4 10000\n";
        StorageCharge x = Checks.charged(rate);
        StringBuilder due = new StringBuilder();
        for (int i = 0; i < 24; i++) {
            x.unit(0, 4, 0);
        }
        for (int month = 0; month < 120; month++) {
            x.bill(0, month);
            due.append("B ").append(month).append(" 7200000\n");
        }
        for (int round = 0; round < 2; round++) {
            Checks.readOf(x, round == 0 ? "" : rate);
            for (int month = 0; month < 120; month++) {
                x.correct(0, month);
                due.append("C ").append(month).append(round == 0 ? " -7200000\n" : " 7200000\n");
            }
        }
        int signs = due.length();
        Checks.due("print", x.print(0), signs);
        for (int i = 0; i < 90; i++) {
            int place = i < 45 ? i * 53 : signs - 1 - (i - 45) * 37;
            Checks.due("at " + place, x.at(place), due.charAt(place));
        }
        Checks.due("last sign", x.at(signs - 1), 10);
        Checks.refused("behind it", ArrayIndexOutOfBoundsException.class, () -> x.at(signs));
    }

    private static void noSuchSign() {
        Checks.sentence("ArrayIndexOutOfBoundsException (the machine's own): there is none.");
        Class<ArrayIndexOutOfBoundsException> none = ArrayIndexOutOfBoundsException.class;
        int[] all = {-1, 0, 1, Integer.MIN_VALUE, Integer.MAX_VALUE};
        for (int i : all) {
            StorageCharge x = new StorageCharge();
            Checks.refusedWithoutTrace("never printed, at " + i, x, none, () -> x.at(i));
        }
        StorageCharge y = new StorageCharge();
        y.bill(0, 0);
        Checks.refused("billed but not printed", none, () -> y.at(0));
        y.print(0);
        Checks.due("first", y.at(0), 'B');
        Checks.due("last", y.at(5), 10);
        int[] outside = {-1, 6, 7, 399, 400, 511, 512, 8191, 8192, 1 << 20, Integer.MIN_VALUE,
            Integer.MAX_VALUE};
        for (int i : outside) {
            Checks.refused("at " + i, none, () -> y.at(i));
        }
    }

    private static void countOfSigns() {
        Checks.sentence("0 signs of the text");
        StorageCharge x = new StorageCharge();
        Checks.due("empty", x.count(0), 0);
        x.sign(0);
        Checks.due("one", x.count(0), 1);
        Checks.told(x, "S".repeat(399));
        Checks.due("full", x.count(0), 400);
        Checks.refused("sign", UnsupportedOperationException.class, () -> x.sign(0));
        Checks.due("full still", x.count(0), 400);
        x.read();
        Checks.due("read", x.count(0), 0);
    }

    private static void countOfLines() {
        Checks.sentence("1 lines of the charges");
        StorageCharge x = new StorageCharge();
        Checks.told(x, "M 0 1\nM 1 1\n");
        Checks.due("not read yet", x.count(1), 0);
        x.read();
        Checks.due("read", x.count(1), 2);
        Checks.readOf(x, "M 0 1\nM 1 1\nM 2 1\n?\n");
        Checks.due("a wrong text", x.count(1), 2);
        x.read();
        Checks.due("no line", x.count(1), 0);
    }

    private static void countOfUnits() {
        Checks.sentence("2 units, 3 those that are there still");
        StorageCharge x = new StorageCharge();
        for (int i = 0; i < 24; i++) {
            x.unit(0, 0, 0);
        }
        Checks.due("units", x.count(2), 24);
        Checks.due("still", x.count(3), 24);
        x.gone(23, 3599);
        Checks.due("gone on the last day is gone", x.count(3), 23);
        Checks.refused("again", IllegalStateException.class, () -> x.gone(23, 3599));
        Checks.due("not twice", x.count(3), 23);
        for (int i = 0; i < 23; i++) {
            x.gone(i, i);
        }
        Checks.due("none still", x.count(3), 0);
        Checks.due("units as before", x.count(2), 24);
    }

    private static void countOfMoves() {
        Checks.sentence("4 moves");
        StorageCharge x = new StorageCharge();
        for (int i = 0; i < 60; i++) {
            Checks.due("moves", x.count(4), i);
            x.move(i % 8, 0, 0, 1);
        }
        Checks.refused("move", UnsupportedOperationException.class, () -> x.move(0, 0, 0, 1));
        Checks.due("full", x.count(4), 60);
    }

    private static void countOfPaper() {
        Checks.sentence("5 signs printed last");
        StorageCharge x = new StorageCharge();
        x.bill(0, 0);
        Checks.due("not printed", x.count(5), 0);
        x.print(0);
        Checks.due("printed", x.count(5), 6);
        x.bill(0, 1);
        Checks.due("printed last", x.count(5), 6);
        x.print(0);
        Checks.due("printed again", x.count(5), 12);
        x.print(1);
        Checks.due("nothing printed", x.count(5), 0);
    }

    private static void countOfOwners() {
        Checks.sentence("6 owners of the charges as bits");
        for (int owner = 0; owner < 8; owner++) {
            String[] lines = {"S " + owner + " 0 0\n", "H " + owner + " 0 0\n", "M " + owner + " 0\n",
                "V " + owner + " 1 0\n"};
            for (String line : lines) {
                StorageCharge x = Checks.charged("M 3 1\nM 5 1\n");
                Checks.due("two owners", x.count(6), 8 + 32);
                Checks.readOf(x, line);
                Checks.due("owners of " + line, x.count(6), 1 << owner);
                Checks.readOf(x, line + "?");
                Checks.due("owners behind a wrong text", x.count(6), 1 << owner);
            }
        }
        StorageCharge all = Checks.charged("M 0 0\nM 1 0\nM 2 0\nM 3 0\nM 4 0\nM 5 0\nM 6 0\nM 7 0\n");
        Checks.due("all owners", all.count(6), 255);
        all.unit(0, 0, 0);
        all.read();
        Checks.due("none, though one has a unit", all.count(6), 0);
    }

    private static void call512() {
        Checks.sentence("An object is used for at most 512 calls after it has been made");
        StorageCharge x = new StorageCharge();
        for (int i = 0; i < 509; i++) {
            x.bill(i % 5, i / 5);
        }
        Checks.due("call 510", x.print(4), 10 * 6 + 90 * 7 + 8);
        Checks.due("call 511", x.at(697), 10);
        Checks.due("call 512", x.line(3, 101, 0), 101);
    }

    /** Their answers are free, but rule 7 of LANGUAGE.md lets no call throw by itself. */
    private static void callsBehindThe512th() {
        Checks.sentence("what later calls answer is free");
        StorageCharge x = Checks.charged("S 0 0 10000\nH 0 0 10000\n");
        for (int i = 0; i < 24; i++) {
            x.unit(0, 0, 0);
        }
        for (int owner = 0; owner < 8; owner++) {
            for (int month = 0; month < 120; month++) {
                int o = owner;
                int m = month;
                Checks.answered("bill", () -> x.bill(o, m));
            }
        }
        for (int round = 0; round < 10; round++) {
            Checks.readOf(x, round % 2 == 0 ? "" : "S 0 0 10000\n");
            for (int month = 0; month < 120; month++) {
                int m = month;
                Checks.answered("correct", () -> x.correct(0, m));
            }
        }
        Checks.answered("print", () -> x.print(0));
        Checks.answered("billed", () -> x.billed(0));
        Checks.answered("at", () -> x.at(0));
        Checks.answered("line", () -> x.line(0, 0, 1));
    }
}
