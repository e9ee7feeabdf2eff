import java.util.NoSuchElementException;

/** The boundary sentences on texts and charges: promises 1 (a new object), 2 (sign) and 3 (read). */
public final class TextEdgeTest {
    public static void main(String[] args) {
        newObjectHasNothing();
        newObjectsShareNothing();
        signCounts();
        atMost400Signs();
        right400Signs();
        everySign();
        linesEndWithSign10();
        letters();
        oneBlankBeforeEachNumber();
        asManyNumbersAsSaid();
        oneToSixDigits();
        noZeroInFront();
        ownersAndClassesOfLines();
        cents();
        daysOfDiscounts();
        percentsOfDiscounts();
        eachAtMostOnce();
        severalDiscounts();
        allLines();
        emptyText();
        insteadOfEarlierOnes();
        elseNothingChanges();
        placeOfTheFirstWrongLine();
        signsAreGoneInEitherCase();
        Checks.end();
    }

    private static void right(String text, int lines) {
        StorageCharge x = Checks.charged("M 7 1\n");
        Checks.due("read '" + text + "'", Checks.readOf(x, text), lines);
        Checks.due("lines of '" + text + "'", x.count(1), lines);
        Checks.due("signs behind '" + text + "'", x.count(0), 0);
    }

    /** Wrong alone, behind a right line and before one. */
    private static void wrong(String line) {
        String first = "M 6 10000\n";
        wrongAt(line, 0);
        wrongAt(first + line, first.length());
        wrongAt(first + first.replace('6', '5') + line + "M 4 1\n", 2 * first.length());
    }

    private static void wrongAt(String text, int place) {
        StorageCharge x = Checks.charged("M 7 1\n");
        Checks.due("read '" + text + "'", Checks.readOf(x, text), -1 - place);
        Checks.due("lines behind '" + text + "'", x.count(1), 1);
        Checks.due("owners behind '" + text + "'", x.count(6), 128);
        Checks.due("sum behind '" + text + "'", x.sum(7, 0) + x.sum(6, 0), 1);
        Checks.due("signs behind '" + text + "'", x.count(0), 0);
    }

    private static void newObjectHasNothing() {
        Checks.sentence("No text, no charges, no units.");
        StorageCharge x = new StorageCharge();
        for (int what = 0; what <= 6; what++) {
            Checks.due("count " + what, x.count(what), 0);
        }
        for (int owner = 0; owner < 8; owner++) {
            int o = owner;
            Checks.due("sum", x.sum(o, 0), 0);
            Checks.due("sum of the last month", x.sum(o, 119), 0);
            Checks.due("days", x.days(o, 0), 0);
            Checks.due("billed", x.billed(o), 0);
            Checks.due("compare", x.compare(o, 7 - o, 0), 0);
            Checks.due("print", x.print(o), 0);
            Checks.refused("average", ArithmeticException.class, () -> x.average(o, 0));
            Checks.refused("correct", IllegalStateException.class, () -> x.correct(o, 0));
            Checks.refused("line", NoSuchElementException.class, () -> x.line(o, 0, 0));
        }
        Checks.refused("change", NoSuchElementException.class, () -> x.change(0, 0, 0));
        Checks.refused("gone", NoSuchElementException.class, () -> x.gone(0, 0));
        Checks.refused("at", ArrayIndexOutOfBoundsException.class, () -> x.at(0));
        Checks.due("read", x.read(), 0);
        Checks.due("first sign", x.sign(0), 1);
        Checks.due("first unit", x.unit(0, 0, 0), 0);
        Checks.due("first move", x.move(0, 0, 0, 1), 1);
    }

    private static void newObjectsShareNothing() {
        Checks.sentence("No text, no charges, no units.");
        String fresh = Checks.stateOf(new StorageCharge());
        StorageCharge x = Checks.charged("M 0 5\nS 0 0 1\n");
        x.unit(0, 0, 0);
        x.move(0, 0, 0, 1);
        x.bill(0, 0);
        x.print(0);
        x.sign(83);
        Checks.due("another new object", Checks.stateOf(new StorageCharge()), fresh);
    }

    private static void signCounts() {
        Checks.sentence("A sign of the text: how many there are.");
        StorageCharge x = new StorageCharge();
        Checks.due("first", x.sign(0), 1);
        Checks.due("second", x.sign(255), 2);
        Checks.refused("-1", IllegalArgumentException.class, () -> x.sign(-1));
        Checks.due("a refused one is none", x.sign(10), 3);
        Checks.due("count", x.count(0), 3);
        x.read();
        Checks.due("first again", x.sign(0), 1);
    }

    private static void atMost400Signs() {
        Checks.sentence("the signs that were told (0 .. 255, at most 400)");
        StorageCharge x = new StorageCharge();
        for (int i = 1; i <= 400; i++) {
            Checks.due("sign " + i, x.sign(65), i);
        }
        Checks.refused("sign 401", UnsupportedOperationException.class, () -> x.sign(65));
        Checks.refused("sign 401 again", UnsupportedOperationException.class, () -> x.sign(0));
        Checks.due("count", x.count(0), 400);
        Checks.due("read", x.read(), -1);
        Checks.due("room again", x.sign(65), 1);
    }

    private static void right400Signs() {
        Checks.sentence("the signs that were told (0 .. 255, at most 400)");
        String text = "M 0 100\n" + fortyNineDiscounts();
        Checks.due("the test's own text", text.length(), 400);
        right(text, 50);
    }

    private static String fortyNineDiscounts() {
        StringBuilder text = new StringBuilder();
        for (int i = 0; i < 49; i++) {
            text.append("V ").append(i / 9).append(' ').append(1 + i % 9).append(" 1\n");
        }
        return text.toString();
    }

    private static void everySign() {
        Checks.sentence("a letter and numbers, one blank (32) before each");
        for (int i = 0; i <= 255; i++) {
            char c = (char) i;
            StorageCharge x = new StorageCharge();
            boolean isDigit = c >= '0' && c <= '9';
            boolean isLetter = c == 'S' || c == 'H' || c == 'V';
            Checks.due("sign " + i + " as a number", Checks.readOf(x, "M 0 " + c + "\n"),
                    isDigit ? 1 : -1);
            Checks.due("sign " + i + " as a letter", Checks.readOf(x, c + " 0 1 2\n"),
                    isLetter ? 1 : -1);
            Checks.due("sign " + i + " as a blank", Checks.readOf(x, "M" + c + "0 1\n"),
                    c == ' ' ? 1 : -1);
            Checks.due("sign " + i + " as an end", Checks.readOf(x, "M 0 0" + c), c == 10 ? 1 : -1);
        }
    }

    private static void linesEndWithSign10() {
        Checks.sentence("LINES, each ended by sign 10");
        wrongAt("M 0 1", 0);
        wrongAt("M 0 1\nM 1 1", 6);
        wrongAt("M 0 1\nM", 6);
        wrongAt("M 0 1\n ", 6);
        wrongAt("M 0 1M 1 1\n", 0);
        wrongAt("M 0 1 M 1 1\n", 0);
        wrong("\n");
        wrong("M 0 1\r\n");
        wrong("M 0 1\0\n");
        right("M 0 1\n", 1);
    }

    private static void letters() {
        Checks.sentence("a letter and numbers, one blank (32) before each");
        wrong("0 0 1\n");
        wrong(" 0 0 1\n");
        wrong("SS 0 0 1\n");
        wrong("m 0 1\n");
        wrong("s 0 0 1\n");
        wrong("h 0 0 1\n");
        wrong("v 0 1 1\n");
        wrong("A 0 0 1\n");
        wrong("B 0 1\n");
    }

    private static void oneBlankBeforeEachNumber() {
        Checks.sentence("one blank (32) before each");
        String[] lines = {"S0 0 1\n", "S 00 1\n", "S 0 01\n", "S  0 0 1\n", "S 0  0 1\n", "S 0 0  1\n",
            " S 0 0 1\n", "S 0 0 1 \n", "S\t0 0 1\n", "S 0,0 1\n", "M0 1\n", "M  0 1\n", "M 0  1\n",
            "M 0 1 \n", "H0 0 1\n", "H 0 0  1\n", "V0 1 1\n", "V 0  1 1\n", "V 0 1  1\n"};
        for (String line : lines) {
            wrong(line);
        }
    }

    private static void asManyNumbersAsSaid() {
        Checks.sentence("S owner class cents; H owner kind cents; M owner cents; V owner days percent");
        String[] lines = {"S\n", "S 0\n", "S 0 1\n", "S 0 1 1 1\n", "H\n", "H 0\n", "H 0 1\n",
            "H 0 1 1 1\n", "M\n", "M 0\n", "M 0 1 1\n", "V\n", "V 0\n", "V 0 1\n", "V 0 1 1 1\n"};
        for (String line : lines) {
            wrong(line);
        }
        right("S 0 1 1\nH 0 1 1\nM 0 1\nV 0 1 1\n", 4);
    }

    private static void oneToSixDigits() {
        Checks.sentence("a number is one to six digits");
        wrong("M 0 \n");
        wrong("M  1\n");
        wrong("S 0 0 \n");
        wrong("V 0 1 \n");
        right("M 0 1\n", 1);
        right("M 0 12\n", 1);
        right("M 0 123\n", 1);
        right("M 0 1234\n", 1);
        right("M 0 10000\n", 1);
        wrong("M 0 100000\n");
        wrong("M 0 999999\n");
        wrong("M 0 1000000\n");
        wrong("M 0 1000001\n");
        wrong("M 0000000 1\n");
        wrong("M 0 0000001\n");
        wrong("M 0 4294967296\n");
        wrong("M 0 4294967297\n");
        wrong("M 4294967296 1\n");
        wrong("M 0 18446744073709551617\n");
        wrong("V 0 4294967297 1\n");
        wrong("V 0 1 4294967297\n");
        wrong("M 0 -1\n");
        wrong("M 0 -0\n");
        wrong("M 0 +1\n");
        wrong("M 0 1.\n");
    }

    private static void noZeroInFront() {
        Checks.sentence("without a 0 in front (but 0 itself)");
        right("M 0 0\n", 1);
        right("S 0 0 0\n", 1);
        right("V 0 1 0\n", 1);
        right("M 0 10\n", 1);
        right("M 0 100\n", 1);
        String[] lines = {"M 0 00\n", "M 0 01\n", "M 0 010\n", "M 0 000001\n", "M 00 1\n", "M 01 1\n",
            "S 00 0 1\n", "S 0 00 1\n", "S 0 01 1\n", "S 0 0 00\n", "H 0 04 1\n", "V 0 01 1\n",
            "V 0 1 00\n", "V 0 1 050\n"};
        for (String line : lines) {
            wrong(line);
        }
    }

    private static void ownersAndClassesOfLines() {
        Checks.sentence("OWNERS are 0 .. 7, CLASSES and KINDS 0 .. 4");
        right("S 0 0 1\nS 7 4 1\nH 0 0 1\nH 7 4 1\nM 0 1\nM 7 1\nV 0 1 1\nV 7 1 1\n", 8);
        String[] lines = {"S 8 0 1\n", "H 8 0 1\n", "M 8 1\n", "V 8 1 1\n", "S 0 5 1\n", "H 0 5 1\n",
            "S 10 0 1\n", "H 0 10 1\n", "S 256 0 1\n", "M 100000 1\n", "S 0 256 1\n", "H 0 100000 1\n"};
        for (String line : lines) {
            wrong(line);
        }
    }

    private static void cents() {
        Checks.sentence("CENTS are 0 .. 10000");
        right("S 0 0 0\nS 0 1 10000\nH 0 0 0\nH 0 1 10000\nM 0 0\nM 1 10000\n", 6);
        wrong("S 0 0 10001\n");
        wrong("H 0 0 10001\n");
        wrong("M 0 10001\n");
        StorageCharge x = Checks.charged("S 0 1 10000\nH 1 1 10000\nM 2 10000\n");
        x.unit(0, 1, 29);
        x.move(1, 1, 29, 1);
        Checks.due("storage of 10000", x.sum(0, 0), 10000);
        Checks.due("handling of 10000", x.sum(1, 0), 10000);
        Checks.due("a minimum of 10000", x.sum(2, 0), 10000);
    }

    private static void daysOfDiscounts() {
        Checks.sentence("a DISCOUNT (days 1 .. 9000");
        right("V 0 1 1\nV 0 9000 1\n", 2);
        wrong("V 0 0 1\n");
        wrong("V 0 9001 1\n");
        wrong("V 0 10000 1\n");
        wrong("V 0 999999 1\n");
    }

    private static void percentsOfDiscounts() {
        Checks.sentence("percent 0 .. 100)");
        right("V 0 1 0\nV 0 2 100\n", 2);
        wrong("V 0 1 101\n");
        wrong("V 0 1 1000\n");
        wrong("V 0 1 999999\n");
    }

    private static void eachAtMostOnce() {
        Checks.sentence("Each at most once for an owner (and class, or kind)");
        wrongAt("S 0 0 1\nS 0 0 1\n", 8);
        wrongAt("S 0 0 0\nS 0 0 0\n", 8);
        wrongAt("S 7 4 1\nH 7 4 1\nS 7 4 2\n", 16);
        wrongAt("H 0 0 1\nH 0 0 1\n", 8);
        wrongAt("H 7 4 0\nS 7 4 0\nH 7 4 0\n", 16);
        wrongAt("M 0 1\nM 0 1\n", 6);
        wrongAt("M 7 0\nM 0 0\nM 7 0\n", 12);
        right("S 0 0 1\nS 0 1 1\nS 1 0 1\nH 0 0 1\nH 0 1 1\nH 1 0 1\nM 0 1\nM 1 1\n", 8);
        StorageCharge x = Checks.charged("S 0 0 1\nM 0 1\nV 0 1 1\n");
        Checks.due("an earlier text's lines are no second ones",
                Checks.readOf(x, "S 0 0 1\nM 0 1\nV 0 1 1\n"), 3);
        Checks.due("nor those of a wrong text", Checks.readOf(x, "H 0 0 1\nM 1 1\nV 1 1 1\nX\n"), -23);
        Checks.due("read", Checks.readOf(x, "H 0 0 1\nM 1 1\nV 1 1 1\n"), 3);
    }

    private static void severalDiscounts() {
        Checks.sentence("but several V of an owner with different days");
        right("V 0 1 1\nV 0 2 1\nV 0 9000 1\nV 1 1 1\n", 4);
        wrongAt("V 0 1 1\nV 0 1 1\n", 8);
        wrongAt("V 0 1 1\nV 0 1 2\n", 8);
        wrongAt("V 0 1 1\nV 0 2 1\nV 1 1 1\nV 0 1 3\n", 24);
        wrongAt("V 7 9000 0\nV 6 9000 0\nV 7 9000 0\n", 22);
    }

    /** 400 signs have room for 52 right lines at most, so that no text has a right line 61. */
    private static void allLines() {
        Checks.sentence("READING takes all lines (at most 60).");
        StringBuilder text = new StringBuilder();
        for (int owner = 0; owner < 8; owner++) {
            text.append("M ").append(owner).append(" 9\n");
        }
        for (int i = 0; i < 40; i++) {
            text.append("S ").append(i / 5).append(' ').append(i % 5).append(" 1\n");
        }
        text.append("H 0 0 1\nH 0 1 1\nH 0 2 1\nH 7 4 1\n");
        Checks.due("the test's own text", text.length(), 400);
        right(text.toString(), 52);
        StorageCharge x = Checks.charged(text.toString());
        x.move(7, 4, 0, 100);
        Checks.due("the last line counts", x.sum(7, 0), 100);
        Checks.due("the first line counts", x.sum(0, 0), 9);
        wrongAt("\n".repeat(61), 0);
        wrongAt("\n".repeat(400), 0);
        wrongAt("M 0 1\n" + "\n".repeat(394), 6);
    }

    private static void emptyText() {
        Checks.sentence("The text is right if each is as said");
        StorageCharge x = Checks.charged("M 0 5\nS 0 0 1\n");
        Checks.due("read", x.read(), 0);
        Checks.due("lines", x.count(1), 0);
        Checks.due("owners", x.count(6), 0);
        Checks.due("sum", x.sum(0, 0), 0);
        Checks.due("read again", x.read(), 0);
    }

    private static void insteadOfEarlierOnes() {
        Checks.sentence("then its lines are the CHARGES instead of earlier ones");
        StorageCharge x = Checks.charged("S 0 0 10\nH 1 0 10\nM 2 10\nV 0 1 50\n");
        x.unit(0, 0, 29);
        x.move(1, 0, 0, 1);
        Checks.due("storage, with a discount", x.sum(0, 0), 5);
        Checks.due("handling", x.sum(1, 0), 10);
        Checks.due("a minimum", x.sum(2, 0), 10);
        Checks.due("read", Checks.readOf(x, "S 0 0 7\n"), 1);
        Checks.due("other storage, no discount", x.sum(0, 0), 7);
        Checks.due("no handling", x.sum(1, 0), 0);
        Checks.due("no minimum", x.sum(2, 0), 0);
        Checks.due("owners", x.count(6), 1);
        Checks.due("read", Checks.readOf(x, "M 2 3\n"), 1);
        Checks.due("no storage", x.sum(0, 0), 0);
        Checks.due("another minimum", x.sum(2, 0), 3);
        Checks.due("lines", x.count(1), 1);
        Checks.due("owners", x.count(6), 4);
        for (int cents = 8; cents <= 9; cents++) {
            Checks.due("read", Checks.readOf(x, "S 0 0 " + cents + "\n"), 1);
            Checks.due("a discount told long before is none", x.sum(0, 0), cents);
            Checks.due("nor is a minimum", x.sum(2, 0), 0);
        }
    }

    private static void elseNothingChanges() {
        Checks.sentence("Else nothing changes.");
        StorageCharge x = Checks.charged("S 0 0 10\nH 1 0 10\nM 2 10\nV 0 1 50\n");
        x.unit(0, 0, 29);
        x.move(1, 0, 0, 1);
        x.bill(2, 0);
        x.print(2);
        String before = Checks.stateOf(x);
        Checks.due("read", Checks.readOf(x, "S 0 0 1\nS 0 0 2\n"), -9);
        Checks.due("state", Checks.stateOf(x), before);
        Checks.due("read", Checks.readOf(x, "V 0 2 9\nH 1 0 1\nM 2 1\nM 3 1\n?"), -29);
        Checks.due("state", Checks.stateOf(x), before);
    }

    private static void placeOfTheFirstWrongLine() {
        Checks.sentence("the place (0, 1, ..) of the first sign of the first line that is not as said");
        wrongAt("?", 0);
        wrongAt("M 0 1?\n", 0);
        wrongAt("M 0 1\n?", 6);
        wrongAt("M 0 1\nM 1 1\nM 2 1?\nM 3 1?\n", 12);
        wrongAt("?\n?\n", 0);
        String text = "M 0 10\n" + fortyNineDiscounts();
        Checks.due("the test's own text", text.length(), 399);
        right(text, 50);
        wrongAt(text + "?", 399);
        wrongAt(text + "\n", 399);
        wrongAt(text + "M", 399);
    }

    private static void signsAreGoneInEitherCase() {
        Checks.sentence("The signs are gone in either case.");
        StorageCharge x = new StorageCharge();
        Checks.due("a right text", Checks.readOf(x, "M 0 1\n"), 1);
        Checks.due("signs", x.count(0), 0);
        Checks.due("a wrong text", Checks.readOf(x, "M 0 1"), -1);
        Checks.due("signs", x.count(0), 0);
        Checks.due("the next one starts anew", Checks.readOf(x, "\n"), -1);
        Checks.due("lines stay", x.count(1), 1);
        Checks.due("a right one again", Checks.readOf(x, "M 1 1\nM 2 1\n"), 2);
        Checks.due("a wrong second line", Checks.readOf(x, "M 1 1\nM 2\n"), -7);
        Checks.due("places start anew", Checks.readOf(x, "M 2\n"), -1);
    }
}
