/** What the project's tests share: they compare answers, and end with exit code 1 if one is wrong. */
final class Checks {
    private static int wrong = 0;
    private static String sentence = "";

    private Checks() {
    }

    /** The document's sentence that the next checks ask for; a wrong answer is printed with it. */
    static void sentence(String words) {
        sentence = "'" + words + "': ";
    }

    static void due(String call, long got, long want) {
        if (got != want) {
            wrong++;
            System.out.println(sentence + call + " answered " + got + ", due is " + want);
        }
    }

    static void due(String call, boolean got, boolean want) {
        due(call, got ? 1 : 0, want ? 1 : 0);
    }

    static void due(String call, String got, String want) {
        if (!got.equals(want)) {
            wrong++;
            System.out.println(sentence + call + " answered '" + got + "', due is '" + want + "'");
        }
    }

    /** The call throws just this class, not one below or above it. */
    static void refused(String call, Class<? extends RuntimeException> want, Runnable body) {
        due(call, thrownBy(body), want.getSimpleName());
    }

    /** The call throws just this class, and nothing that can be asked for is another one then. */
    static void refusedWithoutTrace(String call, StorageCharge x,
            Class<? extends RuntimeException> want, Runnable body) {
        String before = stateOf(x);
        refused(call, want, body);
        due("state behind " + call, stateOf(x), before);
    }

    static void answered(String call, Runnable body) {
        due(call + " throws", thrownBy(body), "nothing");
    }

    /** What the machine throws itself is told apart: the class may throw by its own statements alone. */
    static String thrownBy(Runnable body) {
        try {
            body.run();
        } catch (RuntimeException e) {
            String name = e.getClass().getSimpleName();
            return isOfTheMachine(e.getMessage()) ? "the machine's " + name : name;
        }
        return "nothing";
    }

    private static boolean isOfTheMachine(String message) {
        return message != null && (message.equals("/ by zero") || message.startsWith("Index "));
    }

    /** Tells the signs of a text, without reading them. */
    static StorageCharge told(StorageCharge x, String text) {
        for (int i = 0; i < text.length(); i++) {
            x.sign(text.charAt(i));
        }
        return x;
    }

    static int readOf(StorageCharge x, String text) {
        return told(x, text).read();
    }

    /** A new object with these charges. */
    static StorageCharge charged(String text) {
        StorageCharge x = new StorageCharge();
        if (readOf(x, text) < 0) {
            throw new IllegalStateException("the test's own text is wrong: " + text);
        }
        return x;
    }

    /** What was printed last, sign by sign. */
    static String paper(StorageCharge x) {
        StringBuilder signs = new StringBuilder();
        int length = x.count(5);
        for (int i = 0; i < length; i++) {
            signs.append((char) x.at(i));
        }
        return signs.toString();
    }

    /** What the calls that change nothing answer; few of them, for an object is used for 512. */
    static String stateOf(StorageCharge x) {
        StringBuilder state = new StringBuilder();
        for (int what = 0; what <= 6; what++) {
            state.append(x.count(what)).append(' ');
        }
        state.append(paper(x));
        for (int owner = 0; owner < 8; owner++) {
            state.append(x.billed(owner)).append(':');
            for (int month : new int[] {0, 1, 119}) {
                state.append(x.sum(owner, month)).append(',').append(x.days(owner, month)).append(' ');
            }
        }
        return state.toString();
    }

    static void end() {
        if (wrong != 0) {
            System.out.println(wrong + " answers are not as due");
            System.exit(1);
        }
    }
}
