import java.util.NoSuchElementException;

/** Promises 11 to 14 (bill, correct, line, billed) and 16 to 18 (print, at, count). */
public final class BillTest {
    public static void main(String[] args) {
        billsAndCorrections();
        billsRefused();
        linesRefused();
        linesOfOwners();
        printed();
        longestPaper();
        atRefused();
        counts();
        Checks.end();
    }

    private static void billsAndCorrections() {
        StorageCharge x = Checks.charged("S 0 0 10\n");
        Checks.due("a bill of 0", x.bill(0, 3), 0);
        x.unit(0, 0, 100);
        Checks.due("the bill stands as it was", x.billed(0), 0);
        Checks.due("correct up", x.correct(0, 3), 200);
        Checks.due("billed", x.billed(0), 200);
        Checks.due("a correction of 0", x.correct(0, 3), 0);
        Checks.refused("is no line", NoSuchElementException.class, () -> x.line(0, 2, 0));
        x.gone(0, 104);
        Checks.due("correct down", x.correct(0, 3), -150);
        Checks.due("billed", x.billed(0), 50);
        Checks.due("other month", x.bill(0, 2), 0);
        Checks.due("read", Checks.readOf(x, "M 0 7\n"), 1);
        Checks.due("by new charges", x.correct(0, 3), -43);
        Checks.due("by new charges, the other", x.correct(0, 2), 7);
        Checks.due("billed", x.billed(0), 14);
        int[][] lines = {{3, 0, 0}, {3, 200, 1}, {3, -150, 1}, {2, 0, 0}, {3, -43, 1}, {2, 7, 1}};
        for (int i = 0; i < lines.length; i++) {
            for (int what = 0; what < 3; what++) {
                Checks.due("line " + i + " " + what, x.line(0, i, what), lines[i][what]);
            }
        }
    }

    private static void billsRefused() {
        StorageCharge x = Checks.charged("M 0 7\nM 1 9\n");
        int[][] wrong = {{-1, 0}, {8, 0}, {0, -1}, {0, 120}};
        for (int[] w : wrong) {
            Checks.refused("bill", IllegalArgumentException.class, () -> x.bill(w[0], w[1]));
            Checks.refused("correct", IllegalArgumentException.class, () -> x.correct(w[0], w[1]));
        }
        Checks.refused("billed -1", IllegalArgumentException.class, () -> x.billed(-1));
        Checks.refused("billed 8", IllegalArgumentException.class, () -> x.billed(8));
        Checks.refused("not billed", IllegalStateException.class, () -> x.correct(0, 0));
        x.bill(0, 119);
        Checks.refused("billed already", IllegalStateException.class, () -> x.bill(0, 119));
        Checks.refused("another month is not", IllegalStateException.class, () -> x.correct(0, 118));
        Checks.refused("another owner is not", IllegalStateException.class, () -> x.correct(1, 119));
        Checks.due("billed", x.billed(0), 7);
        Checks.due("print", x.print(0), 8);
        Checks.due("another owner", x.bill(1, 119), 9);
        Checks.due("billed is by owner", x.billed(0), 7);
        x.correct(0, 119);
        Checks.refused("after a correction of 0", IllegalStateException.class, () -> x.bill(0, 119));
    }

    private static void linesRefused() {
        StorageCharge x = Checks.charged("M 0 7\n");
        Checks.refused("no line", NoSuchElementException.class, () -> x.line(0, 0, 0));
        x.bill(0, 0);
        Checks.refused("owner -1", IllegalArgumentException.class, () -> x.line(-1, 9, 9));
        Checks.refused("owner 8", IllegalArgumentException.class, () -> x.line(8, 0, 0));
        Checks.refused("owner comes first", IllegalArgumentException.class, () -> x.line(8, 9, 9));
        Checks.refused("line -1", NoSuchElementException.class, () -> x.line(0, -1, 0));
        Checks.refused("line 1", NoSuchElementException.class, () -> x.line(0, 1, 0));
        Checks.refused("line comes before what", NoSuchElementException.class, () -> x.line(0, 1, 3));
        Checks.refused("what -1", IllegalArgumentException.class, () -> x.line(0, 0, -1));
        Checks.refused("what 3", IllegalArgumentException.class, () -> x.line(0, 0, 3));
        Checks.refused("another owner", NoSuchElementException.class, () -> x.line(1, 0, 0));
    }

    private static void linesOfOwners() {
        StorageCharge x = Checks.charged("M 0 7\nM 7 9\n");
        x.bill(0, 5);
        x.bill(7, 1);
        x.bill(0, 4);
        x.bill(7, 0);
        Checks.due("0, 1", x.line(0, 1, 0), 4);
        Checks.due("7, 0", x.line(7, 0, 0), 1);
        Checks.due("7, 1", x.line(7, 1, 0), 0);
        Checks.due("7, 1, cents", x.line(7, 1, 1), 9);
        Checks.due("billed 7", x.billed(7), 18);
        Checks.due("billed 3", x.billed(3), 0);
    }

    private static void printed() {
        StorageCharge x = Checks.charged("S 0 0 10000\nH 0 0 10000\nM 1 10\n");
        x.bill(0, 0);
        x.unit(0, 0, 0);
        x.correct(0, 0);
        x.bill(0, 10);
        x.bill(1, 119);
        x.gone(0, 0);
        x.correct(0, 10);
        x.correct(0, 0);
        String lines = "B 0 0\nC 0 300000\nB 10 300000\nC 10 -300000\nC 0 -290000\n";
        Checks.due("print", x.print(0), lines.length());
        Checks.due("paper", Checks.paper(x), lines);
        x.bill(0, 119);
        Checks.due("paper is as printed last", Checks.paper(x), lines);
        Checks.refused("print -1", IllegalArgumentException.class, () -> x.print(-1));
        Checks.refused("print 8", IllegalArgumentException.class, () -> x.print(8));
        Checks.due("paper after refusals", Checks.paper(x), lines);
        Checks.due("print 1", x.print(1), 9);
        Checks.due("paper of 1", Checks.paper(x), "B 119 10\n");
        Checks.due("print again", x.print(0), lines.length() + 8);
        Checks.due("paper again", Checks.paper(x), lines + "B 119 0\n");
        Checks.due("print of nothing", x.print(7), 0);
        Checks.due("paper of nothing", Checks.paper(x), "");
    }

    /** Lines with the most signs, and nearly as many lines as 512 calls can make. */
    private static void longestPaper() {
        StorageCharge x = Checks.charged("H 0 0 10000\n");
        for (int i = 0; i < 60; i++) {
            x.move(0, 0, 3599, 100);
        }
        x.bill(0, 119);
        StringBuilder lines = new StringBuilder("B 119 60000000\n");
        for (int i = 0; i < 10; i++) {
            Checks.due("read", Checks.readOf(x, i % 2 == 0 ? "" : "H 0 0 10000\n"), i % 2);
            x.correct(0, 119);
            lines.append(i % 2 == 0 ? "C 119 -60000000\n" : "C 119 60000000\n");
        }
        Checks.due("print", x.print(0), lines.length());
        Checks.due("paper", Checks.paper(x), lines.toString());
        StorageCharge y = new StorageCharge();
        StringBuilder bills = new StringBuilder();
        for (int i = 0; i < 480; i++) {
            y.bill(i / 120, i % 120);
            bills.append(i < 120 ? "B " + i + " 0\n" : "");
        }
        int signs = bills.length();
        Checks.due("print", y.print(0), signs);
        for (int i = signs - 10; i < signs; i++) {
            Checks.due("at " + i, y.at(i), bills.charAt(i));
        }
        Checks.refused("at the end", ArrayIndexOutOfBoundsException.class, () -> y.at(signs));
    }

    private static void atRefused() {
        StorageCharge x = new StorageCharge();
        Checks.refused("nothing printed", ArrayIndexOutOfBoundsException.class, () -> x.at(0));
        x.bill(0, 0);
        x.print(0);
        Checks.due("at 0", x.at(0), 'B');
        Checks.due("at 5", x.at(5), 10);
        int[] wrong = {-1, 6, 7, 8191, 8192, 100000, Integer.MAX_VALUE, Integer.MIN_VALUE};
        for (int i : wrong) {
            Checks.refused("at " + i, ArrayIndexOutOfBoundsException.class, () -> x.at(i));
        }
        x.print(1);
        Checks.refused("an earlier print is gone", ArrayIndexOutOfBoundsException.class,
                () -> x.at(0));
    }

    private static void counts() {
        StorageCharge x = Checks.charged("S 1 0 1\nM 3 1\nH 3 0 1\nV 7 1 1\n");
        Checks.told(x, "S 0");
        x.unit(0, 0, 0);
        x.unit(0, 0, 0);
        x.unit(0, 0, 0);
        x.gone(1, 5);
        x.move(5, 0, 0, 1);
        x.move(6, 0, 0, 1);
        x.bill(3, 10);
        x.print(3);
        int[] due = {3, 4, 3, 2, 2, 7, 2 + 8 + 128};
        for (int what = 0; what < due.length; what++) {
            Checks.due("count " + what, x.count(what), due[what]);
        }
        int[] others = {-1, 7, 8, Integer.MAX_VALUE, Integer.MIN_VALUE};
        for (int what : others) {
            Checks.due("count " + what, x.count(what), -1);
        }
    }
}
