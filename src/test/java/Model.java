import java.math.BigDecimal;
import java.math.RoundingMode;
import java.util.ArrayDeque;
import java.util.ArrayList;
import java.util.Arrays;
import java.util.Deque;
import java.util.List;
import java.util.regex.Matcher;
import java.util.regex.Pattern;

/** The document again, written as plainly as the Java library allows, to be compared with the sheet. */
final class Model {
    private static final String JUMP = "[1-4](?:[FZ][<!e]?|[TSOA][<!]?)";
    private static final String ELEMENT = "(?:" + JUMP + "(?:\\+" + JUMP + "){0,2}|[ps][0-4])";
    private static final Pattern PROGRAM = Pattern.compile(ELEMENT + "(?:;" + ELEMENT + "){0,11}", Pattern.DOTALL);
    private static final int[][] WORTHS = {
        {0, 40, 130, 420, 950}, {0, 40, 130, 430, 970}, {0, 50, 170, 490, 1050},
        {0, 50, 180, 530, 1100}, {0, 60, 210, 590, 1150}, {0, 110, 330, 800, 1250}};
    private static final int[] SPINS = {120, 150, 190, 240, 300};
    private static final int[] STEPS = {150, 180, 260, 330, 390};
    private static final int[] LEAST = {50, 0, 0, 0, 0};
    private static final int[] GREATEST = {300, 5, 12, 5, 30};

    static final class Part {
        int kind = -1;
        int turns;
        int call;

        boolean same(Part other) {
            return kind == other.kind && turns == other.turns;
        }
    }

    static final class Element {
        char type = 'j';
        List<Part> parts = new ArrayList<>();
        int[] marks = new int[5];
        boolean fall;
        boolean review;

        boolean isChain() {
            return parts.size() > 1;
        }
    }

    static final class Skater {
        List<Element> elements = new ArrayList<>();
        int[][] components = new int[3][5];
        int points;
    }

    static final class Sheet {
        List<Skater> skaters = new ArrayList<>();
        int[] settings = {100, 3, 7, 3, 10};
    }

    private Sheet sheet = new Sheet();
    private final Deque<Sheet> remembered = new ArrayDeque<>();
    private final Sheet[] slots = new Sheet[2];
    private String text = "";

    // ---- copies

    private static Element copy(Element from) {
        Element to = new Element();
        to.type = from.type;
        for (Part p : from.parts) {
            Part q = new Part();
            q.kind = p.kind;
            q.turns = p.turns;
            q.call = p.call;
            to.parts.add(q);
        }
        to.marks = from.marks.clone();
        to.fall = from.fall;
        to.review = from.review;
        return to;
    }

    private static Skater copy(Skater from) {
        Skater to = new Skater();
        for (Element e : from.elements) {
            to.elements.add(copy(e));
        }
        for (int k = 0; k < 3; k++) {
            to.components[k] = from.components[k].clone();
        }
        to.points = from.points;
        return to;
    }

    private static Sheet copy(Sheet from) {
        Sheet to = new Sheet();
        for (Skater s : from.skaters) {
            to.skaters.add(copy(s));
        }
        to.settings = from.settings.clone();
        return to;
    }

    private void remember() {
        remembered.addLast(copy(sheet));
        if (remembered.size() > 14) {
            remembered.removeFirst();
        }
    }

    // ---- worth

    private static long rounded(long over, long under) {
        return BigDecimal.valueOf(over).divide(BigDecimal.valueOf(under), 0, RoundingMode.HALF_UP).longValueExact();
    }

    private static long percent(long of, long percents) {
        return rounded(of * percents, 100);
    }

    private int reason(Skater s, int e, int k) {
        Element own = s.elements.get(e);
        if (isTooMany(s, e)) {
            return 5;
        }
        if (k > 0 && isChainTooMany(s, e)) {
            return 3;
        }
        if (k == 2) {
            for (int i = 0; i < e; i++) {
                if (s.elements.get(i).parts.size() == 3 && !isTooMany(s, i) && !isChainTooMany(s, i)) {
                    return 4;
                }
            }
        }
        Part part = own.parts.get(k);
        if (own.type != 'j' || part.turns < 3) {
            return 0;
        }
        List<Element> before = new ArrayList<>();
        for (int i = 0; i <= e; i++) {
            Element other = s.elements.get(i);
            for (int j = 0; j < other.parts.size(); j++) {
                boolean isBefore = i < e || j < k;
                if (isBefore && other.type == 'j' && other.parts.get(j).same(part)) {
                    int reason = reason(s, i, j);
                    if (reason < 3) {
                        before.add(other);
                    }
                }
            }
        }
        if (before.size() >= 2) {
            return 2;
        }
        return before.size() == 1 && !own.isChain() && !before.get(0).isChain() ? 1 : 0;
    }

    private boolean isTooMany(Skater s, int e) {
        char type = s.elements.get(e).type;
        long so = s.elements.subList(0, e + 1).stream().filter(i -> i.type == type).count();
        int most = type == 'j' ? sheet.settings[2] : type == 'p' ? sheet.settings[3] : 1;
        return so > most;
    }

    private boolean isChainTooMany(Skater s, int e) {
        if (!s.elements.get(e).isChain()) {
            return false;
        }
        int chains = 0;
        for (int i = 0; i <= e; i++) {
            if (s.elements.get(i).isChain() && !isTooMany(s, i)) {
                chains++;
            }
        }
        return chains > sheet.settings[1];
    }

    private long worth(Skater s, int e, int k) {
        Element own = s.elements.get(e);
        Part part = own.parts.get(k);
        int reason = reason(s, e, k);
        if (reason >= 2) {
            return 0;
        }
        if (own.type != 'j') {
            return (own.type == 'p' ? SPINS : STEPS)[part.turns];
        }
        long worth = WORTHS[part.kind][part.call == 2 ? part.turns - 1 : part.turns];
        if (part.call == 1 || part.call == 3) {
            worth = percent(worth, 80);
        }
        return reason == 1 ? percent(worth, 70) : worth;
    }

    private boolean hasBonus(Skater s, int e) {
        return s.elements.get(e).type == 'j' && 2 * e >= s.elements.size() && !isTooMany(s, e);
    }

    private long base(Skater s, int e) {
        long sum = 0;
        for (int k = 0; k < s.elements.get(e).parts.size(); k++) {
            sum += worth(s, e, k);
        }
        return hasBonus(s, e) ? percent(sum, 100 + sheet.settings[4]) : sum;
    }

    private static int middle(int[] marks) {
        int[] sorted = marks.clone();
        Arrays.sort(sorted);
        return sorted[1] + sorted[2] + sorted[3];
    }

    private long grade(Skater s, int e, int kernel) {
        long top = 0;
        for (int k = 0; k < s.elements.get(e).parts.size(); k++) {
            top = Math.max(top, worth(s, e, k));
        }
        return rounded(kernel * top, 30);
    }

    private long score(Skater s, int e) {
        return base(s, e) + grade(s, e, middle(s.elements.get(e).marks));
    }

    private long technical(Skater s) {
        long sum = 0;
        for (int e = 0; e < s.elements.size(); e++) {
            sum += score(s, e);
        }
        return sum;
    }

    private static long componentWorth(int[] marks) {
        return rounded(middle(marks) * 25L, 3);
    }

    private long components(Skater s) {
        long sum = 0;
        for (int[] marks : s.components) {
            sum += componentWorth(marks);
        }
        return percent(sum, sheet.settings[0]);
    }

    private static long falls(Skater s) {
        return s.elements.stream().filter(e -> e.fall).count();
    }

    private static long reviews(Skater s) {
        return s.elements.stream().filter(e -> e.review).count();
    }

    private static long takenOff(Skater s) {
        return 100 * (falls(s) + s.points);
    }

    private long total(Skater s) {
        return technical(s) + components(s) - takenOff(s);
    }

    private List<Skater> order() {
        List<Skater> order = new ArrayList<>(sheet.skaters);
        order.sort((a, b) -> total(a) != total(b) ? Long.compare(total(b), total(a))
                : Long.compare(technical(b), technical(a)));
        return order;
    }

    // ---- text

    private static boolean mayBegin(String text) {
        Matcher m = PROGRAM.matcher(text);
        return m.matches() || m.hitEnd();
    }

    int errorPosition() {
        if (PROGRAM.matcher(text).matches()) {
            return -1;
        }
        for (int i = 0; i < text.length(); i++) {
            if (!mayBegin(text.substring(0, i + 1))) {
                return i;
            }
        }
        return text.length();
    }

    private List<Element> elements() {
        List<Element> elements = new ArrayList<>();
        for (String written : text.split(";")) {
            Element e = new Element();
            if (written.charAt(0) == 'p' || written.charAt(0) == 's') {
                e.type = written.charAt(0);
                Part p = new Part();
                p.turns = written.charAt(1) - '0';
                e.parts.add(p);
            } else {
                for (String jump : written.split("\\+")) {
                    Part p = new Part();
                    p.turns = jump.charAt(0) - '0';
                    p.kind = "TSOFZA".indexOf(jump.charAt(1));
                    p.call = jump.length() == 2 ? 0 : 1 + "<!e".indexOf(jump.charAt(2));
                    e.parts.add(p);
                }
            }
            elements.add(e);
        }
        return elements;
    }

    long append(int c) {
        argument(c >= 0 && c <= 255);
        state(text.length() < 120);
        text += (char) c;
        return text.length();
    }

    long clearText() {
        int length = text.length();
        text = "";
        return length;
    }

    // ---- what fails

    private static void index(boolean holds) {
        if (!holds) {
            throw new IndexOutOfBoundsException();
        }
    }

    private static void argument(boolean holds) {
        if (!holds) {
            throw new IllegalArgumentException();
        }
    }

    private static void state(boolean holds) {
        if (!holds) {
            throw new IllegalStateException();
        }
    }

    private Skater skaterOf(int s) {
        index(s >= 0 && s < sheet.skaters.size());
        return sheet.skaters.get(s);
    }

    private Element elementOf(int s, int e) {
        Skater own = skaterOf(s);
        index(e >= 0 && e < own.elements.size());
        return own.elements.get(e);
    }

    private Part partOf(int s, int e, int k) {
        Element own = elementOf(s, e);
        index(k >= 0 && k < own.parts.size());
        return own.parts.get(k);
    }

    // ---- what there is

    /** How many parts each element of a skater has; of none if there is no such skater. */
    int[] parts(int s) {
        return s < 0 || s >= sheet.skaters.size() ? new int[0]
                : sheet.skaters.get(s).elements.stream().mapToInt(e -> e.parts.size()).toArray();
    }

    long about(int what) {
        argument(what >= 0 && what <= 5);
        long sum = 0;
        for (Skater s : sheet.skaters) {
            if (what == 1) {
                sum += reviews(s);
            } else if (what == 2) {
                sum += falls(s);
            } else if (what == 3) {
                sum += s.elements.size();
            } else {
                for (int e = 0; e < s.elements.size(); e++) {
                    for (int k = 0; k < s.elements.get(e).parts.size(); k++) {
                        sum += reason(s, e, k) != 0 ? 1 : 0;
                    }
                }
            }
        }
        return what == 0 ? sheet.skaters.size()
                : what == 4 ? (sheet.skaters.isEmpty() ? -1 : sheet.skaters.indexOf(order().get(0))) : sum;
    }

    long skater(int s, int what) {
        Skater own = skaterOf(s);
        argument(what >= 0 && what <= 7);
        return switch (what) {
            case 0 -> own.elements.size();
            case 1 -> technical(own);
            case 2 -> components(own);
            case 3 -> takenOff(own);
            case 4 -> total(own);
            case 5 -> order().indexOf(own);
            case 6 -> falls(own);
            default -> reviews(own);
        };
    }

    long element(int s, int e, int what) {
        Element own = elementOf(s, e);
        Skater of = sheet.skaters.get(s);
        argument(what >= 0 && what <= 8);
        return switch (what) {
            case 0 -> "jps".indexOf(own.type);
            case 1 -> own.parts.size();
            case 2 -> base(of, e);
            case 3 -> middle(own.marks);
            case 4 -> grade(of, e, middle(own.marks));
            case 5 -> score(of, e);
            case 6 -> own.fall ? 1 : 0;
            case 7 -> own.review ? 1 : 0;
            default -> hasBonus(of, e) ? 1 : 0;
        };
    }

    long part(int s, int e, int k, int what) {
        Part own = partOf(s, e, k);
        argument(what >= 0 && what <= 4);
        return switch (what) {
            case 0 -> own.kind;
            case 1 -> own.turns;
            case 2 -> own.call;
            case 3 -> worth(sheet.skaters.get(s), e, k);
            default -> reason(sheet.skaters.get(s), e, k);
        };
    }

    long setting(int what) {
        argument(what >= 0 && what <= 4);
        return sheet.settings[what];
    }

    // ---- actions

    long add() {
        state(sheet.skaters.size() < 4);
        remember();
        sheet.skaters.add(new Skater());
        return sheet.skaters.size() - 1;
    }

    long program(int s) {
        skaterOf(s);
        state(errorPosition() == -1);
        remember();
        skaterOf(s).elements = elements();
        return skaterOf(s).elements.size();
    }

    private static int[] digits(int number, int base) {
        int[] digits = new int[5];
        int rest = number;
        for (int i = 4; i >= 0; i--) {
            digits[i] = rest % base;
            rest /= base;
        }
        return digits;
    }

    long mark(int s, int e, int marks) {
        elementOf(s, e);
        argument(marks >= 0 && marks < Math.pow(11, 5));
        remember();
        int[] given = digits(marks, 11);
        for (int i = 0; i < 5; i++) {
            given[i] -= 5;
        }
        elementOf(s, e).marks = given;
        return middle(given);
    }

    long component(int s, int k, int marks) {
        skaterOf(s);
        index(k >= 0 && k <= 2);
        argument(marks >= 0 && marks < Math.pow(41, 5));
        remember();
        skaterOf(s).components[k] = digits(marks, 41);
        return componentWorth(skaterOf(s).components[k]);
    }

    private void checkCall(int s, int e, int k, int call) {
        Part own = partOf(s, e, k);
        argument(call >= 0 && call <= 3);
        state(own.kind != -1 && (call != 3 || "FZ".indexOf("TSOFZA".charAt(own.kind)) >= 0));
    }

    long call(int s, int e, int k, int call) {
        checkCall(s, e, k, call);
        remember();
        int previous = partOf(s, e, k).call;
        partOf(s, e, k).call = call;
        return previous;
    }

    long review(int s, int e, boolean is) {
        elementOf(s, e);
        remember();
        elementOf(s, e).review = is;
        return about(1);
    }

    long fall(int s, int e, boolean is) {
        elementOf(s, e);
        remember();
        elementOf(s, e).fall = is;
        return falls(skaterOf(s));
    }

    long penalty(int s, int points) {
        skaterOf(s);
        argument(points >= 0 && points <= 9);
        remember();
        int previous = skaterOf(s).points;
        skaterOf(s).points = points;
        return previous;
    }

    long set(int what, int v) {
        argument(what >= 0 && what <= 4);
        argument(v >= LEAST[what] && v <= GREATEST[what]);
        remember();
        int previous = sheet.settings[what];
        sheet.settings[what] = v;
        return previous;
    }

    long undo() {
        state(!remembered.isEmpty());
        sheet = remembered.removeLast();
        return remembered.size();
    }

    // ---- what would be

    /** Another model with a copy of this one's state and text. */
    private Model twin() {
        Model twin = new Model();
        twin.sheet = copy(sheet);
        twin.text = text;
        return twin;
    }

    long ifCalled(int s, int e, int k, int call) {
        Model twin = twin();
        twin.call(s, e, k, call);
        return twin.skater(s, 4);
    }

    long ifReplaced(int s, int e) {
        elementOf(s, e);
        state(errorPosition() == -1 && elements().size() == 1);
        Model twin = twin();
        twin.skaterOf(s).elements.set(e, elements().get(0));
        return twin.skater(s, 4);
    }

    long bestSwap(int s, int what) {
        skaterOf(s);
        argument(what >= 0 && what <= 2);
        long[] best = {Long.MIN_VALUE, -1, -1};
        for (int j = skaterOf(s).elements.size() - 1; j > 0; j--) {
            for (int i = j - 1; i >= 0; i--) {
                Model twin = twin();
                List<Element> list = twin.skaterOf(s).elements;
                list.set(i, list.set(j, list.get(i)));
                long total = twin.skater(s, 4);
                boolean isLower = i < best[1] || i == best[1] && j < best[2];
                if (total > best[0] || total == best[0] && isLower) {
                    best = new long[] {total, i, j};
                }
            }
        }
        return best[1] == -1 ? -1 : best[what];
    }

    long needs(int s, int e) {
        elementOf(s, e);
        long least = -1;
        for (int kernel = 15; kernel >= -15; kernel--) {
            Model twin = twin();
            twin.elementOf(s, e).marks = new int[] {-5, 5, Math.floorDiv(kernel, 3), Math.floorDiv(kernel + 1, 3),
                Math.floorDiv(kernel + 2, 3)};
            if (twin.skater(s, 5) == 0) {
                least = 100 + kernel;
            }
        }
        return least;
    }

    long behind(int s) {
        return total(order().isEmpty() ? skaterOf(s) : order().get(0)) - total(skaterOf(s));
    }

    // ---- scripts, simulations, slots

    long runScript(int n, long script) {
        argument(n >= 1 && n <= 3);
        argument(script >= 0);
        StringBuilder digits = new StringBuilder(Long.toString(script));
        argument(digits.length() <= 5 * n);
        while (digits.length() < 5 * n) {
            digits.insert(0, '0');
        }
        Model twin = twin();
        for (int i = 0; i < n; i++) {
            boolean succeeds;
            try {
                succeeds = twin.succeeds(digits.substring(5 * i, 5 * i + 5));
            } catch (RuntimeException e) {
                succeeds = false;
            }
            if (!succeeds) {
                return i;
            }
        }
        return -1;
    }

    private boolean succeeds(String group) {
        int s = group.charAt(1) - '0';
        int c = group.charAt(2) - '0';
        int d = group.charAt(3) - '0';
        int last = group.charAt(4) - '0';
        int middle = Integer.parseInt(group.substring(2, 4));
        int three = Integer.parseInt(group.substring(2));
        if (group.matches("1..[0-9][01]")) {
            fall(s, middle, last == 1);
            return true;
        }
        if (group.startsWith("2")) {
            call(s, c, d, last);
            return true;
        }
        if (group.matches("3...[01]")) {
            review(s, middle, last == 1);
            return true;
        }
        if (group.matches("4.00.")) {
            penalty(s, last);
            return true;
        }
        if (group.startsWith("5")) {
            set(s, three);
            return true;
        }
        if (group.matches("6.00.")) {
            return skater(s, 5) == last;
        }
        if (group.startsWith("7")) {
            return skater(s, 4) >= 10 * three;
        }
        if (group.startsWith("8")) {
            return part(s, c, d, 4) == last;
        }
        return group.matches("90..0") && about(1) <= middle;
    }

    long simulate(long seed, int m) {
        argument(m >= 1 && m <= 60);
        Model twin = twin();
        long x = seed;
        for (int i = 0; i < m; i++) {
            x = x * 6364136223846793005L + 1442695040888963407L;
            int r = (int) (x >>> 33);
            try {
                twin.turn(r, r / 8 % 4, r / 32 % 12);
            } catch (IndexOutOfBoundsException | IllegalArgumentException | IllegalStateException left) {
                // the document leaves it out
            }
        }
        return twin.sheet.skaters.stream().mapToLong(twin::total).sum();
    }

    private void turn(int r, int s, int e) {
        switch (r % 8) {
            case 0, 1, 2 -> mark(s, e, r / 512 % 161051);
            case 3 -> component(s, r / 32 % 3, r / 128 % 115856201);
            case 4, 5 -> call(s, e, r / 512 % 3, r / 2048 % 4);
            case 6 -> fall(s, e, r / 512 % 2 == 0);
            default -> penalty(s, r / 32 % 10);
        }
    }

    long save(int slot) {
        index(slot == 0 || slot == 1);
        slots[slot] = copy(sheet);
        return sheet.skaters.size();
    }

    long restore(int slot) {
        index(slot == 0 || slot == 1);
        state(slots[slot] != null);
        sheet = copy(slots[slot]);
        remembered.clear();
        return sheet.skaters.size();
    }
}
