import java.util.Arrays;

/**
 * The sheet of a figure skating contest, as ../shared/DOC.md tells it.
 *
 * All rows are made with the sheet and used again: a call makes no object but the exception it throws.
 */
public final class SkateSheet {
    public static final int NONE = -1;

    private static final int MAX_SKATERS = 4;
    private static final int MAX_ELEMENTS = 12;
    private static final int MAX_PARTS = 3;
    private static final int COMPONENTS = 3;
    private static final int SETTINGS = 5;
    private static final int SLOTS = 2;

    private static final int JUMPS = 0;
    private static final int SPIN = 1;
    private static final int STEPS = 2;

    private static final int SHORT = 1;
    private static final int DOWNGRADED = 2;
    private static final int WRONG_EDGE = 3;

    private static final int MAX_MARKS = 161050;
    private static final int MAX_COMPONENT_MARKS = 115856200;
    private static final int MAX_KERNEL = 15;
    private static final int MAX_POINTS = 9;

    private static final int MAX_COMMANDS = 3;
    private static final int MAX_TURNS = 60;

    private final State state;
    private final History history;
    private final State[] slots;
    private final boolean[] saved;
    private final Text text;
    private final Scoring scoring;
    private final Standing standing;
    private final Command command;
    /** The copy of the state that scripts, simulations and other trials change. */
    private final State trial;
    /** The program that the text was read into last, or one with exchanged elements. */
    private final Program draft;

    public SkateSheet() {
        state = new State();
        history = new History();
        slots = new State[SLOTS];
        for (int i = 0; i < SLOTS; i++) {
            slots[i] = new State();
        }
        saved = new boolean[SLOTS];
        text = new Text();
        scoring = new Scoring();
        standing = new Standing();
        command = new Command();
        trial = new State();
        draft = new Program();
    }

    // ---- text

    public int append(int c) throws IllegalArgumentException, IllegalStateException {
        if (c < 0 || c > 255) {
            throw new IllegalArgumentException("c is not 0 to 255");
        }
        if (text.isFull()) {
            throw new IllegalStateException("the text is full");
        }
        text.put(c);
        return text.length;
    }

    public int clearText() {
        int previous = text.length;
        text.length = 0;
        return previous;
    }

    public int errorPosition() {
        return text.readInto(draft);
    }

    // ---- what there is

    public int about(int what) throws IllegalArgumentException {
        if (what < 0 || what > 5) {
            throw new IllegalArgumentException("what is not 0 to 5");
        }
        switch (what) {
            case 0:
                return state.skaters;
            case 1:
                return state.reviewed();
            case 2:
                return state.fallen();
            case 3:
                return state.allElements();
            case 4:
                standing.rank(state, scoring);
                return standing.first();
            default:
                return lesserParts();
        }
    }

    public int skater(int s, int what) throws IndexOutOfBoundsException, IllegalArgumentException {
        if (!state.hasSkater(s)) {
            throw new IndexOutOfBoundsException("no such skater");
        }
        if (what < 0 || what > 7) {
            throw new IllegalArgumentException("what is not 0 to 7");
        }
        Program own = state.programs[s];
        scoring.rate(own, state.settings);
        switch (what) {
            case 0:
                return own.elements;
            case 1:
                return scoring.technical;
            case 2:
                return scoring.components;
            case 3:
                return scoring.takenOff;
            case 4:
                return scoring.total();
            case 5:
                standing.rank(state, scoring);
                return standing.place(s);
            case 6:
                return own.fallen();
            default:
                return own.reviewed();
        }
    }

    public int element(int s, int e, int what) throws IndexOutOfBoundsException, IllegalArgumentException {
        if (!state.hasElement(s, e)) {
            throw new IndexOutOfBoundsException("no such skater or element");
        }
        if (what < 0 || what > 8) {
            throw new IllegalArgumentException("what is not 0 to 8");
        }
        Program own = state.programs[s];
        scoring.rate(own, state.settings);
        switch (what) {
            case 0:
                return own.types[e];
            case 1:
                return own.parts[e];
            case 2:
                return scoring.bases[e];
            case 3:
                return own.kernels[e];
            case 4:
                return scoring.grades[e];
            case 5:
                return scoring.bases[e] + scoring.grades[e];
            case 6:
                return own.falls[e];
            case 7:
                return own.reviews[e];
            default:
                return scoring.bonuses[e];
        }
    }

    public int part(int s, int e, int k, int what) throws IndexOutOfBoundsException, IllegalArgumentException {
        if (!state.hasPart(s, e, k)) {
            throw new IndexOutOfBoundsException("no such skater, element or part");
        }
        if (what < 0 || what > 4) {
            throw new IllegalArgumentException("what is not 0 to 4");
        }
        Program own = state.programs[s];
        int at = MAX_PARTS * e + k;
        switch (what) {
            case 0:
                return own.kinds[at];
            case 1:
                return own.turns[at];
            case 2:
                return own.calls[at];
            case 3:
                scoring.rate(own, state.settings);
                return scoring.worths[at];
            default:
                scoring.rate(own, state.settings);
                return scoring.reasons[at];
        }
    }

    public int setting(int what) throws IllegalArgumentException {
        if (what < 0 || what >= SETTINGS) {
            throw new IllegalArgumentException("what is not 0 to 4");
        }
        return state.settings[what];
    }

    // ---- actions

    public int add() throws IllegalStateException {
        if (state.skaters >= MAX_SKATERS) {
            throw new IllegalStateException("there are 4 skaters");
        }
        history.remember(state);
        int s = state.skaters;
        state.programs[s].clear();
        state.skaters = s + 1;
        return s;
    }

    public int program(int s) throws IndexOutOfBoundsException, IllegalStateException {
        if (!state.hasSkater(s)) {
            throw new IndexOutOfBoundsException("no such skater");
        }
        if (text.readInto(draft) != NONE) {
            throw new IllegalStateException("the text is not a program");
        }
        history.remember(state);
        Program own = state.programs[s];
        own.copyElements(draft);
        return own.elements;
    }

    public int mark(int s, int e, int marks) throws IndexOutOfBoundsException, IllegalArgumentException {
        if (!state.hasElement(s, e)) {
            throw new IndexOutOfBoundsException("no such skater or element");
        }
        if (marks < 0 || marks > MAX_MARKS) {
            throw new IllegalArgumentException("marks is not 0 to 161050");
        }
        history.remember(state);
        int kernel = kernelOf(marks);
        state.putKernel(s, e, kernel);
        return kernel;
    }

    public int component(int s, int k, int marks) throws IndexOutOfBoundsException, IllegalArgumentException {
        if (!state.hasSkater(s) || k < 0 || k >= COMPONENTS) {
            throw new IndexOutOfBoundsException("no such skater or component");
        }
        if (marks < 0 || marks > MAX_COMPONENT_MARKS) {
            throw new IllegalArgumentException("marks is not 0 to 115856200");
        }
        history.remember(state);
        int worth = componentOf(marks);
        state.putComponent(s, k, worth);
        return worth;
    }

    public int call(int s, int e, int k, int call)
            throws IndexOutOfBoundsException, IllegalArgumentException, IllegalStateException {
        checkCall(s, e, k, call);
        history.remember(state);
        int previous = state.programs[s].calls[MAX_PARTS * e + k];
        state.putCall(s, e, k, call);
        return previous;
    }

    public int review(int s, int e, boolean is) throws IndexOutOfBoundsException {
        if (!state.hasElement(s, e)) {
            throw new IndexOutOfBoundsException("no such skater or element");
        }
        history.remember(state);
        state.putReview(s, e, is ? 1 : 0);
        return state.reviewed();
    }

    public int fall(int s, int e, boolean is) throws IndexOutOfBoundsException {
        if (!state.hasElement(s, e)) {
            throw new IndexOutOfBoundsException("no such skater or element");
        }
        history.remember(state);
        state.putFall(s, e, is ? 1 : 0);
        return state.programs[s].fallen();
    }

    public int penalty(int s, int points) throws IndexOutOfBoundsException, IllegalArgumentException {
        if (!state.hasSkater(s)) {
            throw new IndexOutOfBoundsException("no such skater");
        }
        if (points < 0 || points > MAX_POINTS) {
            throw new IllegalArgumentException("points is not 0 to 9");
        }
        history.remember(state);
        int previous = state.programs[s].points;
        state.putPoints(s, points);
        return previous;
    }

    public int set(int what, int v) throws IllegalArgumentException {
        if (!State.settingFits(what, v)) {
            throw new IllegalArgumentException("what or v is out of range");
        }
        history.remember(state);
        int previous = state.settings[what];
        state.putSetting(what, v);
        return previous;
    }

    public int undo() throws IllegalStateException {
        if (!history.takeBack(state)) {
            throw new IllegalStateException("no state is remembered");
        }
        return history.count;
    }

    // ---- what would be

    public int ifCalled(int s, int e, int k, int call)
            throws IndexOutOfBoundsException, IllegalArgumentException, IllegalStateException {
        checkCall(s, e, k, call);
        draft.copyFrom(state.programs[s]);
        draft.calls[MAX_PARTS * e + k] = call;
        scoring.rate(draft, state.settings);
        return scoring.total();
    }

    public int ifReplaced(int s, int e) throws IndexOutOfBoundsException, IllegalStateException {
        if (!state.hasElement(s, e)) {
            throw new IndexOutOfBoundsException("no such skater or element");
        }
        if (text.readInto(draft) != NONE || draft.elements != 1) {
            throw new IllegalStateException("the text is not a program of one element");
        }
        Program own = trial.programs[s];
        own.copyFrom(state.programs[s]);
        own.takeElement(e, draft, 0);
        scoring.rate(own, state.settings);
        return scoring.total();
    }

    public int bestSwap(int s, int what) throws IndexOutOfBoundsException, IllegalArgumentException {
        if (!state.hasSkater(s)) {
            throw new IndexOutOfBoundsException("no such skater");
        }
        if (what < 0 || what > 2) {
            throw new IllegalArgumentException("what is not 0 to 2");
        }
        Program own = state.programs[s];
        draft.copyFrom(own);
        int best = 0;
        int first = NONE;
        int second = NONE;
        for (int i = 0; i < own.elements; i++) {
            for (int j = i + 1; j < own.elements; j++) {
                int total = totalOfSwap(own, i, j);
                if (first == NONE || total > best) {
                    best = total;
                    first = i;
                    second = j;
                }
            }
        }
        if (first == NONE) {
            return NONE;
        }
        return what == 0 ? best : what == 1 ? first : second;
    }

    public int needs(int s, int e) throws IndexOutOfBoundsException {
        if (!state.hasElement(s, e)) {
            throw new IndexOutOfBoundsException("no such skater or element");
        }
        standing.rank(state, scoring);
        scoring.rate(state.programs[s], state.settings);
        int top = scoring.tops[e];
        int technical = scoring.technical - scoring.grades[e];
        int total = scoring.total() - scoring.grades[e];
        for (int kernel = -MAX_KERNEL; kernel <= MAX_KERNEL; kernel++) {
            int grade = Scoring.gradeOf(kernel, top);
            standing.totals[s] = total + grade;
            standing.technicals[s] = technical + grade;
            if (standing.place(s) == 0) {
                return 100 + kernel;
            }
        }
        return NONE;
    }

    public int behind(int s) throws IndexOutOfBoundsException {
        if (!state.hasSkater(s)) {
            throw new IndexOutOfBoundsException("no such skater");
        }
        standing.rank(state, scoring);
        int first = standing.first();
        return first == NONE ? 0 : standing.totals[first] - standing.totals[s];
    }

    // ---- scripts, simulations

    public int runScript(int n, long script) throws IllegalArgumentException {
        if (n < 1 || n > MAX_COMMANDS) {
            throw new IllegalArgumentException("n is not 1 to 3");
        }
        if (script < 0 || Command.groupsBefore(n, script) != 0) {
            throw new IllegalArgumentException("script is negative or has too many digits");
        }
        trial.copyFrom(state);
        for (int i = 0; i < n; i++) {
            command.read((int) (Command.groupsBefore(n - 1 - i, script) % Command.GROUP));
            boolean succeeds = command.verb <= 5 ? acts() : holds();
            if (!succeeds) {
                return i;
            }
        }
        return NONE;
    }

    public int simulate(long seed, int m) throws IllegalArgumentException {
        if (m < 1 || m > MAX_TURNS) {
            throw new IllegalArgumentException("m is not 1 to 60");
        }
        trial.copyFrom(state);
        long x = seed;
        for (int i = 0; i < m; i++) {
            x = x * 6364136223846793005L + 1442695040888963407L;
            takeTurn((int) (x >>> 33));
        }
        standing.rank(trial, scoring);
        int sum = 0;
        for (int s = 0; s < trial.skaters; s++) {
            sum += standing.totals[s];
        }
        return sum;
    }

    // ---- save slots

    public int save(int slot) throws IndexOutOfBoundsException {
        if (slot < 0 || slot >= SLOTS) {
            throw new IndexOutOfBoundsException("no such save slot");
        }
        slots[slot].copyFrom(state);
        saved[slot] = true;
        return state.skaters;
    }

    public int restore(int slot) throws IndexOutOfBoundsException, IllegalStateException {
        if (slot < 0 || slot >= SLOTS) {
            throw new IndexOutOfBoundsException("no such save slot");
        }
        if (!saved[slot]) {
            throw new IllegalStateException("nothing has been saved in the slot");
        }
        state.copyFrom(slots[slot]);
        history.forget();
        return state.skaters;
    }

    // ---- what the face leans on

    private void checkCall(int s, int e, int k, int call) {
        if (!state.hasPart(s, e, k)) {
            throw new IndexOutOfBoundsException("no such skater, element or part");
        }
        if (call < 0 || call > WRONG_EDGE) {
            throw new IllegalArgumentException("call is not 0 to 3");
        }
        if (!state.programs[s].takesCall(e, k, call)) {
            throw new IllegalStateException("the part does not take the call");
        }
    }

    private int lesserParts() {
        int sum = 0;
        for (int s = 0; s < state.skaters; s++) {
            scoring.rate(state.programs[s], state.settings);
            sum += scoring.lesser;
        }
        return sum;
    }

    /** The draft is a copy of the program before and behind this. */
    private int totalOfSwap(Program own, int i, int j) {
        draft.takeElement(i, own, j);
        draft.takeElement(j, own, i);
        scoring.rate(draft, state.settings);
        draft.takeElement(i, own, i);
        draft.takeElement(j, own, j);
        return scoring.total();
    }

    /** Does a command of 0 to 5 on the trial; answers whether it succeeds. */
    private boolean acts() {
        int s = command.second;
        int last = command.fifth;
        switch (command.verb) {
            case 1:
                return last <= 1 && trial.putFall(s, command.middleTwo(), last);
            case 2:
                return trial.putCall(s, command.third, command.fourth, last);
            case 3:
                return last <= 1 && trial.putReview(s, command.middleTwo(), last);
            case 4:
                return command.middleTwo() == 0 && trial.putPoints(s, last);
            case 5:
                return trial.putSetting(command.second, command.lastThree());
            default:
                return false;
        }
    }

    /** Answers whether what a command of 6 to 9 tells is so in the trial. */
    private boolean holds() {
        int s = command.second;
        if (command.verb == 9) {
            return s == 0 && command.fifth == 0 && trial.reviewed() <= command.middleTwo();
        }
        if (!trial.hasSkater(s)) {
            return false;
        }
        if (command.verb == 6) {
            standing.rank(trial, scoring);
            return command.middleTwo() == 0 && standing.place(s) == command.fifth;
        }
        scoring.rate(trial.programs[s], trial.settings);
        if (command.verb == 7) {
            return scoring.total() >= 10 * command.lastThree();
        }
        int e = command.third;
        int k = command.fourth;
        return trial.hasPart(s, e, k) && scoring.reasons[MAX_PARTS * e + k] == command.fifth;
    }

    /** Does one turn of a simulation on the trial; r is 0 or more. */
    private void takeTurn(int r) {
        int s = r / 8 % 4;
        int e = r / 32 % 12;
        switch (r % 8) {
            case 3:
                trial.putComponent(s, r / 32 % 3, componentOf(r / 128 % (MAX_COMPONENT_MARKS + 1)));
                break;
            case 4:
            case 5:
                trial.putCall(s, e, r / 512 % 3, r / 2048 % 4);
                break;
            case 6:
                trial.putFall(s, e, r / 512 % 2 == 0 ? 1 : 0);
                break;
            case 7:
                trial.putPoints(s, r / 32 % 10);
                break;
            default:
                trial.putKernel(s, e, kernelOf(r / 512 % (MAX_MARKS + 1)));
                break;
        }
    }

    private static int kernelOf(int marks) {
        // three marks are left, each told with 5 added to it
        return threeOf(marks % 11, marks / 11 % 11, marks / 121 % 11, marks / 1331 % 11, marks / 14641) - 15;
    }

    private static int componentOf(int marks) {
        int three = threeOf(marks % 41, marks / 41 % 41, marks / 1681 % 41, marks / 68921 % 41, marks / 2825761);
        // thirds have no half: 1 more before the division rounds to the nearest
        return (three * 25 + 1) / 3;
    }

    /** What is left of five marks, together, without one greatest and one least. */
    private static int threeOf(int a, int b, int c, int d, int e) {
        int least = Math.min(Math.min(Math.min(a, b), Math.min(c, d)), e);
        int greatest = Math.max(Math.max(Math.max(a, b), Math.max(c, d)), e);
        return a + b + c + d + e - least - greatest;
    }

    /** What belongs to one skater. A part stands in the rows of parts at 3 * its element + its number. */
    static final class Program {
        final int[] types = new int[MAX_ELEMENTS];
        final int[] parts = new int[MAX_ELEMENTS];
        final int[] kernels = new int[MAX_ELEMENTS];
        final int[] falls = new int[MAX_ELEMENTS];
        final int[] reviews = new int[MAX_ELEMENTS];
        final int[] kinds = new int[MAX_ELEMENTS * MAX_PARTS];
        /** The rotations of a jump, the level of a spin or of steps. */
        final int[] turns = new int[MAX_ELEMENTS * MAX_PARTS];
        final int[] calls = new int[MAX_ELEMENTS * MAX_PARTS];
        /** What each component is worth: the marks themselves are never asked for. */
        final int[] components = new int[COMPONENTS];
        int elements;
        int points;

        void clear() {
            elements = 0;
            points = 0;
            Arrays.fill(components, 0);
        }

        /** Puts an element without parts behind the others, if there is room. */
        void startElement(int type) {
            if (elements < MAX_ELEMENTS) {
                types[elements] = type;
                parts[elements] = 0;
                kernels[elements] = 0;
                falls[elements] = 0;
                reviews[elements] = 0;
                elements++;
            }
        }

        /** Puts a part behind the others of the last element, if there is room. */
        void startPart(int kind, int turn, int call) {
            int e = elements - 1;
            if (e >= 0 && parts[e] < MAX_PARTS) {
                int at = MAX_PARTS * e + parts[e];
                kinds[at] = kind;
                turns[at] = turn;
                calls[at] = call;
                parts[e]++;
            }
        }

        void copyFrom(Program from) {
            copyElements(from);
            System.arraycopy(from.components, 0, components, 0, COMPONENTS);
            points = from.points;
        }

        void copyElements(Program from) {
            elements = from.elements;
            System.arraycopy(from.types, 0, types, 0, MAX_ELEMENTS);
            System.arraycopy(from.parts, 0, parts, 0, MAX_ELEMENTS);
            System.arraycopy(from.kernels, 0, kernels, 0, MAX_ELEMENTS);
            System.arraycopy(from.falls, 0, falls, 0, MAX_ELEMENTS);
            System.arraycopy(from.reviews, 0, reviews, 0, MAX_ELEMENTS);
            System.arraycopy(from.kinds, 0, kinds, 0, MAX_ELEMENTS * MAX_PARTS);
            System.arraycopy(from.turns, 0, turns, 0, MAX_ELEMENTS * MAX_PARTS);
            System.arraycopy(from.calls, 0, calls, 0, MAX_ELEMENTS * MAX_PARTS);
        }

        /** Puts the other's element i, with all that belongs to it, in place of the element e. */
        void takeElement(int e, Program from, int i) {
            types[e] = from.types[i];
            parts[e] = from.parts[i];
            kernels[e] = from.kernels[i];
            falls[e] = from.falls[i];
            reviews[e] = from.reviews[i];
            for (int k = 0; k < MAX_PARTS; k++) {
                kinds[MAX_PARTS * e + k] = from.kinds[MAX_PARTS * i + k];
                turns[MAX_PARTS * e + k] = from.turns[MAX_PARTS * i + k];
                calls[MAX_PARTS * e + k] = from.calls[MAX_PARTS * i + k];
            }
        }

        /** Whether the call, 0 to 3, may be given to the part, which there is. */
        boolean takesCall(int e, int k, int call) {
            if (types[e] != JUMPS) {
                return false;
            }
            return call != WRONG_EDGE || hasEdge(kinds[MAX_PARTS * e + k]);
        }

        /** F and Z alone can be taken from the wrong edge. */
        static boolean hasEdge(int kind) {
            return kind == 3 || kind == 4;
        }

        int fallen() {
            int sum = 0;
            for (int e = 0; e < elements; e++) {
                sum += falls[e];
            }
            return sum;
        }

        int reviewed() {
            int sum = 0;
            for (int e = 0; e < elements; e++) {
                sum += reviews[e];
            }
            return sum;
        }
    }

    /** All that actions change. Where there is no such place, the methods named put.. change nothing. */
    static final class State {
        final Program[] programs = new Program[MAX_SKATERS];
        final int[] settings = {100, 3, 7, 3, 10};
        int skaters;

        State() {
            for (int s = 0; s < MAX_SKATERS; s++) {
                programs[s] = new Program();
            }
        }

        /** Leaves the programs of skaters that there are not as they were: add() clears its own. */
        void copyFrom(State from) {
            skaters = from.skaters;
            for (int s = 0; s < skaters; s++) {
                programs[s].copyFrom(from.programs[s]);
            }
            System.arraycopy(from.settings, 0, settings, 0, SETTINGS);
        }

        boolean hasSkater(int s) {
            return s >= 0 && s < skaters;
        }

        boolean hasElement(int s, int e) {
            return hasSkater(s) && e >= 0 && e < programs[s].elements;
        }

        boolean hasPart(int s, int e, int k) {
            return hasElement(s, e) && k >= 0 && k < programs[s].parts[e];
        }

        static boolean settingFits(int what, int v) {
            switch (what) {
                case 0:
                    return v >= 50 && v <= 300;
                case 1:
                case 3:
                    return v >= 0 && v <= 5;
                case 2:
                    return v >= 0 && v <= 12;
                case 4:
                    return v >= 0 && v <= 30;
                default:
                    return false;
            }
        }

        int reviewed() {
            int sum = 0;
            for (int s = 0; s < skaters; s++) {
                sum += programs[s].reviewed();
            }
            return sum;
        }

        int fallen() {
            int sum = 0;
            for (int s = 0; s < skaters; s++) {
                sum += programs[s].fallen();
            }
            return sum;
        }

        int allElements() {
            int sum = 0;
            for (int s = 0; s < skaters; s++) {
                sum += programs[s].elements;
            }
            return sum;
        }

        boolean putFall(int s, int e, int is) {
            if (!hasElement(s, e)) {
                return false;
            }
            programs[s].falls[e] = is;
            return true;
        }

        boolean putReview(int s, int e, int is) {
            if (!hasElement(s, e)) {
                return false;
            }
            programs[s].reviews[e] = is;
            return true;
        }

        void putKernel(int s, int e, int kernel) {
            if (hasElement(s, e)) {
                programs[s].kernels[e] = kernel;
            }
        }

        boolean putCall(int s, int e, int k, int call) {
            if (!hasPart(s, e, k) || call < 0 || call > WRONG_EDGE || !programs[s].takesCall(e, k, call)) {
                return false;
            }
            programs[s].calls[MAX_PARTS * e + k] = call;
            return true;
        }

        void putComponent(int s, int k, int worth) {
            if (hasSkater(s) && k >= 0 && k < COMPONENTS) {
                programs[s].components[k] = worth;
            }
        }

        boolean putPoints(int s, int points) {
            if (!hasSkater(s)) {
                return false;
            }
            programs[s].points = points;
            return true;
        }

        boolean putSetting(int what, int v) {
            if (!settingFits(what, v)) {
                return false;
            }
            settings[what] = v;
            return true;
        }
    }

    /** The remembered states, in a ring: the oldest one gives its room to the newest one. */
    static final class History {
        private static final int ROOM = 14;

        final State[] ring = new State[ROOM];
        int oldest;
        int count;

        History() {
            for (int i = 0; i < ROOM; i++) {
                ring[i] = new State();
            }
        }

        void remember(State state) {
            if (count == ROOM) {
                oldest = (oldest + 1) % ROOM;
                count--;
            }
            ring[(oldest + count) % ROOM].copyFrom(state);
            count++;
        }

        /** Answers false if no state is remembered. */
        boolean takeBack(State state) {
            if (count <= 0) {
                return false;
            }
            count--;
            state.copyFrom(ring[(oldest + count) % ROOM]);
            return true;
        }

        void forget() {
            count = 0;
        }
    }

    /** The text buffer, and how it is read. */
    static final class Text {
        private static final int ROOM = 120;

        final int[] signs = new int[ROOM];
        int length;
        /** The sign that is looked at; behind a read that fails, the error position. */
        int at;

        boolean isFull() {
            return length >= ROOM;
        }

        void put(int c) {
            if (!isFull()) {
                signs[length] = c;
                length++;
            }
        }

        /** The sign that is looked at, NONE at the end. */
        private int sign() {
            return at < length ? signs[at] : NONE;
        }

        /** Makes the text the elements of the program; answers the error position, NONE if it is a program. */
        int readInto(Program to) {
            to.elements = 0;
            at = 0;
            boolean more = true;
            for (int e = 1; e <= MAX_ELEMENTS && more; e++) {
                if (!readElement(to)) {
                    return at;
                }
                more = sign() == ';' && e < MAX_ELEMENTS;
                at += more ? 1 : 0;
            }
            return at == length ? NONE : at;
        }

        private boolean readElement(Program to) {
            if (sign() == 'p') {
                return readLevel(to, SPIN);
            }
            if (sign() == 's') {
                return readLevel(to, STEPS);
            }
            return readChain(to);
        }

        private boolean readLevel(Program to, int type) {
            at++;
            int level = sign() - '0';
            if (level < 0 || level > 4) {
                return false;
            }
            at++;
            to.startElement(type);
            to.startPart(NONE, level, 0);
            return true;
        }

        private boolean readChain(Program to) {
            to.startElement(JUMPS);
            boolean more = true;
            for (int k = 1; k <= MAX_PARTS && more; k++) {
                if (!readJump(to)) {
                    return false;
                }
                more = sign() == '+' && k < MAX_PARTS;
                at += more ? 1 : 0;
            }
            return true;
        }

        private boolean readJump(Program to) {
            int rotations = sign() - '0';
            if (rotations < 1 || rotations > 4) {
                return false;
            }
            at++;
            int kind = kindOf(sign());
            if (kind == NONE) {
                return false;
            }
            at++;
            int call = callOf(sign(), kind);
            at += call != 0 ? 1 : 0;
            to.startPart(kind, rotations, call);
            return true;
        }

        private static int kindOf(int sign) {
            switch (sign) {
                case 'T':
                    return 0;
                case 'S':
                    return 1;
                case 'O':
                    return 2;
                case 'F':
                    return 3;
                case 'Z':
                    return 4;
                case 'A':
                    return 5;
                default:
                    return NONE;
            }
        }

        /** The call that the sign writes for such a jump, 0 if it writes none. */
        private static int callOf(int sign, int kind) {
            switch (sign) {
                case '<':
                    return SHORT;
                case '!':
                    return DOWNGRADED;
                case 'e':
                    return Program.hasEdge(kind) ? WRONG_EDGE : 0;
                default:
                    return 0;
            }
        }
    }

    /** Rates one program at a time; its rows tell of the program that was rated last. */
    static final class Scoring {
        private static final int[] JUMP_WORTHS = {
            40, 130, 420, 950,
            40, 130, 430, 970,
            50, 170, 490, 1050,
            50, 180, 530, 1100,
            60, 210, 590, 1150,
            110, 330, 800, 1250};
        private static final int[] SPIN_WORTHS = {120, 150, 190, 240, 300};
        private static final int[] STEP_WORTHS = {150, 180, 260, 330, 390};
        /** Six kinds, with 3 or 4 rotations. */
        private static final int HARD_JUMPS = 12;

        final int[] worths = new int[MAX_ELEMENTS * MAX_PARTS];
        final int[] reasons = new int[MAX_ELEMENTS * MAX_PARTS];
        final int[] bases = new int[MAX_ELEMENTS];
        final int[] tops = new int[MAX_ELEMENTS];
        final int[] grades = new int[MAX_ELEMENTS];
        final int[] bonuses = new int[MAX_ELEMENTS];
        /** How often each hard jump was done so far. */
        final int[] done = new int[HARD_JUMPS];
        /** 1 if a hard jump, when it was done first, was the only part of its element. */
        final int[] alone = new int[HARD_JUMPS];
        int jumpElements;
        int spins;
        int steps;
        int chains;
        boolean hadThree;
        int lesser;
        int technical;
        int components;
        int takenOff;

        private void startOver() {
            Arrays.fill(done, 0);
            jumpElements = 0;
            spins = 0;
            steps = 0;
            chains = 0;
            hadThree = false;
            lesser = 0;
            technical = 0;
            takenOff = 0;
        }

        void rate(Program program, int[] settings) {
            startOver();
            for (int e = 0; e < program.elements; e++) {
                rateElement(program, e, settings);
                technical += bases[e] + grades[e];
                takenOff += 100 * program.falls[e];
            }
            takenOff += 100 * program.points;
            int sum = 0;
            for (int k = 0; k < COMPONENTS; k++) {
                sum += program.components[k];
            }
            components = percent(sum, settings[0]);
        }

        int total() {
            return technical + components - takenOff;
        }

        private void rateElement(Program program, int e, int[] settings) {
            int type = program.types[e];
            int parts = program.parts[e];
            boolean tooMany = countsTooMany(type, settings);
            if (parts > 1 && !tooMany) {
                chains++;
            }
            boolean chainTooMany = parts > 1 && chains > settings[1];
            int sum = 0;
            int top = 0;
            for (int k = 0; k < parts; k++) {
                int at = MAX_PARTS * e + k;
                int reason = reasonOf(program, e, k, tooMany, chainTooMany);
                int worth = reason > 1 ? 0 : partWorth(type, program.kinds[at], program.turns[at], program.calls[at]);
                worths[at] = reason == 1 ? percent(worth, 70) : worth;
                reasons[at] = reason;
                lesser += reason != 0 ? 1 : 0;
                sum += worths[at];
                top = Math.max(top, worths[at]);
            }
            hadThree = hadThree || parts == MAX_PARTS && !tooMany && !chainTooMany;
            boolean hasBonus = type == JUMPS && !tooMany && 2 * e >= program.elements;
            bases[e] = hasBonus ? percent(sum, 100 + settings[4]) : sum;
            bonuses[e] = hasBonus ? 1 : 0;
            tops[e] = top;
            grades[e] = gradeOf(program.kernels[e], top);
        }

        /** Counts the element; answers whether it is too many. */
        private boolean countsTooMany(int type, int[] settings) {
            if (type == JUMPS) {
                jumpElements++;
                return jumpElements > settings[2];
            }
            if (type == SPIN) {
                spins++;
                return spins > settings[3];
            }
            steps++;
            return steps > 1;
        }

        /** The first reason that applies to a part; counts it for the parts behind it. */
        private int reasonOf(Program program, int e, int k, boolean tooMany, boolean chainTooMany) {
            if (tooMany) {
                return 5;
            }
            if (chainTooMany && k > 0) {
                return 3;
            }
            if (hadThree && k == 2) {
                return 4;
            }
            if (program.types[e] != JUMPS) {
                return 0;
            }
            int at = MAX_PARTS * e + k;
            return repeatReason(program.kinds[at], program.turns[at], program.parts[e] == 1);
        }

        /** Counts a jump that the reasons 5, 3 and 4 leave; answers 2, 1 or 0. */
        private int repeatReason(int kind, int rotations, boolean isAlone) {
            int jump = 2 * kind + rotations - 3;
            if (rotations < 3 || jump < 0 || jump >= HARD_JUMPS) {
                return 0;
            }
            int before = done[jump];
            done[jump] = before + 1;
            if (before == 0) {
                alone[jump] = isAlone ? 1 : 0;
                return 0;
            }
            if (before > 1) {
                return 2;
            }
            return isAlone && alone[jump] == 1 ? 1 : 0;
        }

        /** What a part is worth with its call, before any reason. */
        private static int partWorth(int type, int kind, int turns, int call) {
            if (type == SPIN) {
                return worthAt(SPIN_WORTHS, turns);
            }
            if (type == STEPS) {
                return worthAt(STEP_WORTHS, turns);
            }
            int rotations = call == DOWNGRADED ? turns - 1 : turns;
            int worth = rotations < 1 ? 0 : worthAt(JUMP_WORTHS, 4 * kind + rotations - 1);
            return call == SHORT || call == WRONG_EDGE ? percent(worth, 80) : worth;
        }

        private static int worthAt(int[] row, int at) {
            return at >= 0 && at < row.length ? row[at] : 0;
        }

        /** A half goes up; both are 0 or more. */
        private static int percent(int worth, int percents) {
            return (worth * percents + 50) / 100;
        }

        /** A half goes away from 0. */
        static int gradeOf(int kernel, int top) {
            int grade = (Math.abs(kernel) * top + 15) / 30;
            return kernel < 0 ? -grade : grade;
        }
    }

    /** The order of the skaters; needs() puts totals into it that are not those of the state. */
    static final class Standing {
        final int[] totals = new int[MAX_SKATERS];
        final int[] technicals = new int[MAX_SKATERS];
        int skaters;

        void rank(State state, Scoring scoring) {
            skaters = state.skaters;
            for (int s = 0; s < skaters; s++) {
                scoring.rate(state.programs[s], state.settings);
                totals[s] = scoring.total();
                technicals[s] = scoring.technical;
            }
        }

        private boolean isAhead(int a, int b) {
            if (totals[a] != totals[b]) {
                return totals[a] > totals[b];
            }
            if (technicals[a] != technicals[b]) {
                return technicals[a] > technicals[b];
            }
            return a < b;
        }

        /** How many skaters are ahead of this one. */
        int place(int s) {
            int ahead = 0;
            for (int other = 0; other < skaters; other++) {
                if (other != s && isAhead(other, s)) {
                    ahead++;
                }
            }
            return ahead;
        }

        /** The skater who is first, NONE without skaters. */
        int first() {
            int first = NONE;
            for (int s = 0; s < skaters; s++) {
                if (first == NONE || isAhead(s, first)) {
                    first = s;
                }
            }
            return first;
        }
    }

    /** One command of a script, in its five digits. */
    static final class Command {
        static final int GROUP = 100000;

        int verb;
        int second;
        int third;
        int fourth;
        int fifth;

        void read(int group) {
            verb = group / 10000;
            second = group / 1000 % 10;
            third = group / 100 % 10;
            fourth = group / 10 % 10;
            fifth = group % 10;
        }

        /** What is left of the script without its last groups, of which there are n. */
        static long groupsBefore(int n, long script) {
            long rest = script;
            for (int i = 0; i < n; i++) {
                rest = rest / GROUP;
            }
            return rest;
        }

        int middleTwo() {
            return 10 * third + fourth;
        }

        int lastThree() {
            return 100 * third + 10 * fourth + fifth;
        }
    }
}
