/** Promises 1 (a new object), 2 (sign) and 3 (read). */
public final class TextTest {
    public static void main(String[] args) {
        newObject();
        signs();
        fullText();
        rightTexts();
        wrongTexts();
        wrongLineBehindRightOnes();
        newChargesInsteadOfEarlierOnes();
        wrongTextChangesNothing();
        mostLines();
        Checks.end();
    }

    private static void newObject() {
        StorageCharge x = new StorageCharge();
        for (int what = 0; what <= 6; what++) {
            Checks.due("new: count " + what, x.count(what), 0);
        }
        for (int owner = 0; owner < 8; owner++) {
            Checks.due("new: billed", x.billed(owner), 0);
            Checks.due("new: sum", x.sum(owner, 0), 0);
            Checks.due("new: days", x.days(owner, 119), 0);
        }
        Checks.refused("new: unit 0", java.util.NoSuchElementException.class, () -> x.gone(0, 0));
        Checks.refused("new: at", ArrayIndexOutOfBoundsException.class, () -> x.at(0));
    }

    private static void signs() {
        StorageCharge x = new StorageCharge();
        Checks.due("sign 0", x.sign(0), 1);
        Checks.due("sign 255", x.sign(255), 2);
        Checks.refused("sign -1", IllegalArgumentException.class, () -> x.sign(-1));
        Checks.refused("sign 256", IllegalArgumentException.class, () -> x.sign(256));
        Checks.due("signs after refusals", x.count(0), 2);
        Checks.due("sign 10", x.sign(10), 3);
        Checks.due("read", x.read(), -1);
        Checks.due("signs are gone", x.count(0), 0);
        Checks.due("sign anew", x.sign(83), 1);
    }

    private static void fullText() {
        StorageCharge x = new StorageCharge();
        for (int i = 1; i <= 400; i++) {
            Checks.due("sign " + i, x.sign('S'), i);
        }
        Checks.refused("sign 401", UnsupportedOperationException.class, () -> x.sign('S'));
        Checks.refused("a wrong sign comes before no room", IllegalArgumentException.class,
                () -> x.sign(256));
        Checks.due("signs", x.count(0), 400);
        Checks.due("read", x.read(), -1);
        Checks.due("room again", x.sign('S'), 1);
    }

    private static void rightTexts() {
        right("", 0, 0);
        right("S 0 0 0\n", 1, 1);
        right("S 7 4 10000\n", 1, 128);
        right("H 0 0 0\nH 7 4 10000\n", 2, 129);
        right("M 0 0\nM 7 10000\n", 2, 129);
        right("V 1 1 0\nV 1 9000 100\n", 2, 2);
        right("S 0 0 1\nH 0 0 1\nS 0 1 1\nS 1 0 1\nV 0 5 1\nV 1 5 1\n", 6, 3);
    }

    private static void right(String text, int lines, int owners) {
        StorageCharge x = new StorageCharge();
        Checks.due("read " + text, Checks.readOf(x, text), lines);
        Checks.due("lines of " + text, x.count(1), lines);
        Checks.due("owners of " + text, x.count(6), owners);
        Checks.due("signs behind " + text, x.count(0), 0);
    }

    private static void wrongTexts() {
        String[] wrong = {
            "\n", " ", "S", "S\n", "S \n", "S 0\n", "S 0 0\n", "S 0 0 \n", "S 0 0 1", "S 0 0 1 ",
            "S 0 0 1 \n", "S 0 0 1 1\n", " S 0 0 1\n", "S  0 0 1\n", "S 0  0 1\n", "S 0 0  1\n",
            "S0 0 1\n", "s 0 0 1\n", "X 0 0 1\n", "S 8 0 1\n", "S 0 5 1\n", "S 0 0 10001\n",
            "S 00 0 1\n", "S 0 0 01\n", "S 0 0 00\n", "S 0 0 0000001\n", "S 0 0 100000\n",
            "S 0 0 1000000\n", "S 0 0 -1\n", "S 0 0 +1\n", "S 0 0 1a\n", "S 0 0\n1\n", "S\t0 0 1\n",
            "S 0 0 1\r\n", "S 0 0 /\n", "S 0 0 :\n", "S 0 0 4294967297\n", "S 0 0 0 1\n",
            "H 8 0 1\n", "H 0 5 1\n", "H 0 0 10001\n", "H 0 0\n", "H 0 0 1 1\n",
            "M 8 1\n", "M 0 10001\n", "M 0\n", "M 0 1 1\n", "M 0 01\n",
            "V 8 1 1\n", "V 0 0 1\n", "V 0 9001 1\n", "V 0 1 101\n", "V 0 1\n", "V 0 1 1 1\n",
            "V 0 123456 1\n", "\u00ff\n", "\0\n"};
        for (String text : wrong) {
            StorageCharge x = Checks.charged("S 3 0 1\n");
            Checks.due("read '" + text + "'", Checks.readOf(x, text), -1);
            Checks.due("signs behind '" + text + "'", x.count(0), 0);
            Checks.due("lines behind '" + text + "'", x.count(1), 1);
            Checks.due("owners behind '" + text + "'", x.count(6), 8);
        }
    }

    private static void wrongLineBehindRightOnes() {
        wrongAt("S 0 0 1\nS 0 0 2\n", 8);
        wrongAt("S 0 0 1\nS 0 0 1\nX\n", 8);
        wrongAt("H 2 3 10\nS 2 3 10\nH 2 3 0\n", 18);
        wrongAt("M 0 0\nM 0 0\n", 6);
        wrongAt("V 0 5 1\nV 0 5 2\n", 8);
        wrongAt("V 0 5 1\nV 0 6 1\nV 1 5 1\nV 0 6 1\n", 24);
        wrongAt("S 0 0 1\n\n", 8);
        wrongAt("S 0 0 1\nS 0 0", 8);
        wrongAt("S 0 0 1\nM 1 1", 8);
        wrongAt("S 0 0 1\n ", 8);
        wrongAt("M 0 1\n" + "\n".repeat(80), 6);
    }

    private static void wrongAt(String text, int place) {
        Checks.due("read " + text, Checks.readOf(new StorageCharge(), text), -1 - place);
    }

    private static void newChargesInsteadOfEarlierOnes() {
        StorageCharge x = Checks.charged("S 0 0 10\nH 0 0 3\nM 1 50\nV 0 1 50\n");
        x.unit(0, 0, 0);
        x.move(0, 0, 0, 2);
        Checks.due("sum by the first", x.sum(0, 0), 156);
        Checks.due("read the second", Checks.readOf(x, "S 0 0 1\n"), 1);
        Checks.due("sum by the second", x.sum(0, 0), 30);
        Checks.due("no minimum any more", x.sum(1, 0), 0);
        Checks.due("lines", x.count(1), 1);
        Checks.due("owners", x.count(6), 1);
        Checks.due("read the third", Checks.readOf(x, "S 0 0 2\nV 0 1 50\n"), 2);
        Checks.due("sum by the third", x.sum(0, 0), 30);
        Checks.due("an empty text is right", x.read(), 0);
        Checks.due("lines of no text", x.count(1), 0);
        Checks.due("owners of no text", x.count(6), 0);
        Checks.due("sum by no charges", x.sum(0, 0), 0);
    }

    private static void wrongTextChangesNothing() {
        StorageCharge x = Checks.charged("S 0 0 10\nH 0 0 3\nM 1 50\nV 0 1 50\n");
        x.unit(0, 0, 0);
        x.move(0, 0, 0, 2);
        String before = Checks.stateOf(x);
        Checks.due("read", Checks.readOf(x, "S 0 0 99\nM 1 1\nV 0 2 1\nS 8 0 1\n"), -24);
        Checks.due("state after a wrong text", Checks.stateOf(x), before);
        Checks.due("a wrong text leaves no lines for the next", Checks.readOf(x, "S 0 0 99\n"), 1);
    }

    /** 400 signs have no room for 60 right lines: these 52 are the most. */
    private static void mostLines() {
        StringBuilder text = new StringBuilder();
        for (int owner = 0; owner < 8; owner++) {
            text.append("M ").append(owner).append(" 1\n");
        }
        for (int i = 0; i < 44; i++) {
            text.append(i < 40 ? "S " : "H ").append(i % 40 / 5).append(' ').append(i % 5).append(" 1\n");
        }
        Checks.due("signs", text.length(), 400);
        right(text.toString(), 52, 255);
        StringBuilder discounts = new StringBuilder();
        for (int i = 0; i < 50; i++) {
            discounts.append("V ").append(i % 8).append(' ').append(1 + i / 8).append(" 1\n");
        }
        right(discounts.toString(), 50, 255);
    }
}
