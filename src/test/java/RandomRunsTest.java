import java.util.ArrayList;
import java.util.HashMap;
import java.util.HashSet;
import java.util.List;
import java.util.Map;
import java.util.NoSuchElementException;
import java.util.Random;
import java.util.Set;
import java.util.TreeMap;
import java.util.regex.Matcher;
import java.util.regex.Pattern;

/**
 * Runs of 512 calls, always the same ones, against a second telling of the document that goes day by
 * day and text by text. Every answer and every exception is compared.
 */
public final class RandomRunsTest {
    private static final int RUNS = 3000;

    public static void main(String[] args) {
        for (int run = 0; run < RUNS; run++) {
            new Run(run).play();
        }
        Checks.end();
    }

    /** The document once more, in the plainest form that the Java library allows. */
    private static final class Model {
        private static final Pattern LINE = Pattern.compile(
                "([SHV]) (0|[1-9]\\d{0,5}) (0|[1-9]\\d{0,5}) (0|[1-9]\\d{0,5})"
                + "|(M) (0|[1-9]\\d{0,5}) (0|[1-9]\\d{0,5})");

        private String text = "";
        private Map<String, Integer> charges = new HashMap<>();
        private Map<Integer, TreeMap<Integer, Integer>> discounts = new HashMap<>();
        private int chargeLines = 0;
        private final List<int[]> units = new ArrayList<>();
        private final List<List<int[]>> tellings = new ArrayList<>();
        private final Set<Integer> gone = new HashSet<>();
        private final List<int[]> moves = new ArrayList<>();
        private final Map<Integer, List<int[]>> bills = new HashMap<>();
        private String printed = "";

        private static void range(int number, int least, int most) {
            if (number < least || number > most) {
                throw new IllegalArgumentException();
            }
        }

        private static void room(boolean isThere) {
            if (!isThere) {
                throw new UnsupportedOperationException();
            }
        }

        int sign(int c) {
            range(c, 0, 255);
            room(text.length() < 400);
            text += (char) c;
            return text.length();
        }

        int read() {
            String all = text;
            text = "";
            Map<String, Integer> newCharges = new HashMap<>();
            Map<Integer, TreeMap<Integer, Integer>> newDiscounts = new HashMap<>();
            int lines = 0;
            for (int start = 0; start < all.length(); lines++) {
                int end = all.indexOf('\n', start);
                if (end < 0 || !takes(all.substring(start, end), newCharges, newDiscounts)) {
                    return -1 - start;
                }
                start = end + 1;
            }
            charges = newCharges;
            discounts = newDiscounts;
            chargeLines = lines;
            return lines;
        }

        private static boolean takes(String line, Map<String, Integer> charges,
                Map<Integer, TreeMap<Integer, Integer>> discounts) {
            Matcher m = LINE.matcher(line);
            if (!m.matches()) {
                return false;
            }
            if (m.group(5) != null) {
                int cents = Integer.parseInt(m.group(7));
                return Integer.parseInt(m.group(6)) < 8 && cents <= 10000
                        && charges.put("M" + m.group(6), cents) == null;
            }
            int owner = Integer.parseInt(m.group(2));
            int second = Integer.parseInt(m.group(3));
            int third = Integer.parseInt(m.group(4));
            if (owner > 7) {
                return false;
            }
            if (m.group(1).equals("V")) {
                return second >= 1 && second <= 9000 && third <= 100
                        && discounts.computeIfAbsent(owner, o -> new TreeMap<>())
                                .put(second, third) == null;
            }
            return second < 5 && third <= 10000
                    && charges.put(m.group(1) + owner + second, third) == null;
        }

        int unit(int owner, int kind, int day) {
            range(owner, 0, 7);
            range(kind, 0, 4);
            range(day, 0, 3599);
            room(units.size() < 24);
            units.add(new int[] {owner, day, 3599});
            List<int[]> told = new ArrayList<>();
            told.add(new int[] {day, kind});
            tellings.add(told);
            return units.size() - 1;
        }

        private List<int[]> goesOn(int unit, int day) {
            List<int[]> told = tellings.get(unit);
            if (gone.contains(unit) || day < told.get(told.size() - 1)[0]) {
                throw new IllegalStateException();
            }
            return told;
        }

        private void exists(int unit) {
            if (unit < 0 || unit >= units.size()) {
                throw new NoSuchElementException();
            }
        }

        int change(int unit, int kind, int day) {
            exists(unit);
            range(kind, 0, 4);
            range(day, 0, 3599);
            List<int[]> told = goesOn(unit, day);
            room(told.size() < 9);
            int answer = told.get(told.size() - 1)[1] == kind ? 0 : 1;
            told.add(new int[] {day, kind});
            return answer;
        }

        int gone(int unit, int day) {
            exists(unit);
            range(day, 0, 3599);
            goesOn(unit, day);
            gone.add(unit);
            units.get(unit)[2] = day;
            return day - units.get(unit)[1] + 1;
        }

        int move(int owner, int kind, int day, int pieces) {
            range(owner, 0, 7);
            range(kind, 0, 4);
            range(day, 0, 3599);
            range(pieces, 1, 100);
            room(moves.size() < 60);
            moves.add(new int[] {owner, kind, day, pieces});
            return (int) moves.stream().filter(m -> m[0] == owner).count();
        }

        private int classOn(int unit, int day) {
            int before = -1;
            int best = -1;
            for (int[] t : tellings.get(unit)) {
                before = t[0] < day ? t[1] : before;
                best = t[0] == day ? Math.max(best, t[1]) : best;
            }
            return Math.max(before, best);
        }

        int storage(int owner, int other, int month) {
            int cents = 0;
            for (int u = 0; u < units.size(); u++) {
                for (int day = 30 * month; day < 30 * month + 30; day++) {
                    int[] unit = units.get(u);
                    if (unit[0] == owner && day >= unit[1] && day <= unit[2]) {
                        cents += charges.getOrDefault("S" + other + classOn(u, day), 0);
                    }
                }
            }
            TreeMap<Integer, Integer> steps = discounts.getOrDefault(other, new TreeMap<>());
            Map.Entry<Integer, Integer> step = steps.floorEntry(days(owner, month));
            return step == null ? cents : cents - (int) ((long) cents * step.getValue() / 100);
        }

        int total(int owner, int other, int month) {
            int cents = storage(owner, other, month);
            for (int[] m : moves) {
                if (m[0] == owner && m[2] / 30 == month) {
                    cents += m[3] * charges.getOrDefault("H" + other + m[1], 0);
                }
            }
            return Math.max(cents, charges.getOrDefault("M" + other, cents));
        }

        int sum(int owner, int month) {
            range(owner, 0, 7);
            range(month, 0, 119);
            return total(owner, owner, month);
        }

        int days(int owner, int month) {
            range(owner, 0, 7);
            range(month, 0, 119);
            int found = 0;
            for (int[] unit : units) {
                for (int day = unit[1]; day <= unit[2]; day++) {
                    found += unit[0] == owner && day / 30 == month ? 1 : 0;
                }
            }
            return found;
        }

        int average(int owner, int month) {
            int found = days(owner, month);
            if (found == 0) {
                throw new ArithmeticException();
            }
            return storage(owner, owner, month) / found;
        }

        private List<int[]> linesOf(int owner) {
            return bills.computeIfAbsent(owner, o -> new ArrayList<>());
        }

        int bill(int owner, int month) {
            int cents = sum(owner, month);
            if (linesOf(owner).stream().anyMatch(l -> l[0] == month)) {
                throw new IllegalStateException();
            }
            linesOf(owner).add(new int[] {month, cents, 0});
            return cents;
        }

        int correct(int owner, int month) {
            int cents = sum(owner, month);
            if (linesOf(owner).stream().noneMatch(l -> l[0] == month)) {
                throw new IllegalStateException();
            }
            cents -= linesOf(owner).stream().filter(l -> l[0] == month).mapToInt(l -> l[1]).sum();
            if (cents != 0) {
                linesOf(owner).add(new int[] {month, cents, 1});
            }
            return cents;
        }

        int line(int owner, int i, int what) {
            range(owner, 0, 7);
            if (i < 0 || i >= linesOf(owner).size()) {
                throw new NoSuchElementException();
            }
            range(what, 0, 2);
            return linesOf(owner).get(i)[what];
        }

        int billed(int owner) {
            range(owner, 0, 7);
            return linesOf(owner).stream().mapToInt(l -> l[1]).sum();
        }

        int compare(int owner, int other, int month) {
            range(other, 0, 7);
            int own = sum(owner, month);
            return total(owner, other, month) - own;
        }

        int print(int owner) {
            range(owner, 0, 7);
            printed = "";
            for (int[] l : linesOf(owner)) {
                printed += (l[2] == 1 ? "C " : "B ") + l[0] + " " + l[1] + "\n";
            }
            return printed.length();
        }

        int at(int i) {
            if (i < 0 || i >= printed.length()) {
                throw new ArrayIndexOutOfBoundsException();
            }
            return printed.charAt(i);
        }

        int count(int what) {
            Set<Integer> owners = new HashSet<>(discounts.keySet());
            charges.keySet().forEach(k -> owners.add(k.charAt(1) - '0'));
            int[] counts = {text.length(), chargeLines, units.size(), units.size() - gone.size(),
                moves.size(), printed.length(), owners.stream().mapToInt(o -> 1 << o).sum()};
            return what < 0 || what >= counts.length ? -1 : counts[what];
        }

        int call(String name, int[] a) {
            switch (name) {
                case "sign": return sign(a[0]);
                case "read": return read();
                case "unit": return unit(a[0], a[1], a[2]);
                case "change": return change(a[0], a[1], a[2]);
                case "gone": return gone(a[0], a[1]);
                case "move": return move(a[0], a[1], a[2], a[3]);
                case "sum": return sum(a[0], a[1]);
                case "days": return days(a[0], a[1]);
                case "average": return average(a[0], a[1]);
                case "bill": return bill(a[0], a[1]);
                case "correct": return correct(a[0], a[1]);
                case "line": return line(a[0], a[1], a[2]);
                case "billed": return billed(a[0]);
                case "compare": return compare(a[0], a[1], a[2]);
                case "print": return print(a[0]);
                case "at": return at(a[0]);
                default: return count(a[0]);
            }
        }
    }

    private static int callReal(StorageCharge x, String name, int[] a) {
        switch (name) {
            case "sign": return x.sign(a[0]);
            case "read": return x.read();
            case "unit": return x.unit(a[0], a[1], a[2]);
            case "change": return x.change(a[0], a[1], a[2]) ? 1 : 0;
            case "gone": return x.gone(a[0], a[1]);
            case "move": return x.move(a[0], a[1], a[2], a[3]);
            case "sum": return x.sum(a[0], a[1]);
            case "days": return x.days(a[0], a[1]);
            case "average": return x.average(a[0], a[1]);
            case "bill": return x.bill(a[0], a[1]);
            case "correct": return x.correct(a[0], a[1]);
            case "line": return x.line(a[0], a[1], a[2]);
            case "billed": return x.billed(a[0]);
            case "compare": return x.compare(a[0], a[1], a[2]);
            case "print": return x.print(a[0]);
            case "at": return x.at(a[0]);
            default: return x.count(a[0]);
        }
    }

    /** One run; few owners and months, so that the calls have to do with one another. */
    private static final class Run {
        private static final String[] NAMES = {"unit", "unit", "change", "change", "change", "gone",
            "move", "move", "sum", "sum", "days", "average", "bill", "bill", "correct", "correct",
            "line", "line", "billed", "compare", "print", "at", "at", "count", "text", "sign"};
        private static final int[] EDGES = {-1, 5, 8, 24, 120, 256, 3600, 10001,
            Integer.MAX_VALUE, Integer.MIN_VALUE};

        private final int number;
        private final Random random;
        private final StorageCharge real = new StorageCharge();
        private final Model model = new Model();
        private final int owners;
        private final int months;
        private final int wrongEach;
        private int calls = 0;

        Run(int number) {
            this.number = number;
            this.random = new Random(number);
            this.owners = 1 + random.nextInt(number % 2 == 0 ? 2 : 8);
            this.months = number % 3 == 0 ? 120 : 1 + random.nextInt(5);
            this.wrongEach = 5 + random.nextInt(60);
        }

        void play() {
            for (int i = 0; i < 512; i++) {
                step(NAMES[random.nextInt(NAMES.length)]);
            }
        }

        private void step(String name) {
            switch (name) {
                case "text": readText(); break;
                case "sign": both("sign", pick(256)); break;
                case "unit": both("unit", owner(), pick(5), day()); break;
                case "change": both("change", pick(1 + model.units.size()), pick(5), day()); break;
                case "gone":
                    if (random.nextInt(3) == 0) {
                        both("gone", pick(1 + model.units.size()), day());
                    }
                    break;
                case "move": both("move", owner(), pick(5), day(), pick(102)); break;
                case "line": both("line", owner(), pick(8), pick(3)); break;
                case "billed":
                case "print": both(name, owner()); break;
                case "compare": both("compare", owner(), owner(), month()); break;
                case "at": both("at", pick(1 + model.printed.length())); break;
                case "count": both("count", pick(7)); break;
                default: both(name, owner(), month()); break;
            }
        }

        private int pick(int below) {
            boolean isWrong = random.nextInt(wrongEach) == 0;
            return isWrong ? EDGES[random.nextInt(EDGES.length)] : random.nextInt(below);
        }

        private int owner() {
            return pick(owners);
        }

        private int month() {
            return pick(months);
        }

        private int day() {
            return pick(30 * months);
        }

        private void readText() {
            if (random.nextInt(3) != 0) {
                return;
            }
            StringBuilder lines = new StringBuilder();
            int most = random.nextInt(10);
            for (int i = 0; i < most; i++) {
                lines.append(line());
            }
            if (random.nextInt(6) == 0 && lines.length() > 0) {
                lines.setCharAt(random.nextInt(lines.length()), " \n0123456789SHMVX".charAt(random.nextInt(17)));
            }
            if (random.nextInt(20) == 0 && lines.length() > 0) {
                lines.deleteCharAt(random.nextInt(lines.length()));
            }
            for (int i = 0; i < lines.length(); i++) {
                both("sign", lines.charAt(i));
            }
            both("read");
        }

        private String line() {
            int few = random.nextInt(40) == 0 ? 10002 : 100;
            switch (random.nextInt(4)) {
                case 0: return "S " + random.nextInt(owners) + " " + random.nextInt(5) + " " + random.nextInt(few) + "\n";
                case 1: return "H " + random.nextInt(owners) + " " + random.nextInt(5) + " " + random.nextInt(few) + "\n";
                case 2: return "M " + random.nextInt(owners) + " " + random.nextInt(10000) + "\n";
                default: return "V " + random.nextInt(owners) + " " + (1 + random.nextInt(few)) + " " + random.nextInt(101) + "\n";
            }
        }

        private void both(String name, int... a) {
            if (calls >= 512) {
                return;
            }
            calls++;
            Checks.due("run " + number + ", call " + calls + ": " + name + java.util.Arrays.toString(a),
                    answer(() -> callReal(real, name, a)), answer(() -> model.call(name, a)));
        }

        private static String answer(java.util.function.IntSupplier call) {
            try {
                return String.valueOf(call.getAsInt());
            } catch (RuntimeException e) {
                return e.getClass().getSimpleName();
            }
        }
    }
}
