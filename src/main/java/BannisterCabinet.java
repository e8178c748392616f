import java.util.Arrays;

/**
 * A palace of one great stair, whose ministers walk up a step a year and slide down the bannister.
 * The words in capitals are those of the document, ../shared/DOC.md, which says what each call answers.
 */
public final class BannisterCabinet {
    public static final int BAD = -1, NO = -2, FULL = -3, NONE = -4;

    private static final String OPENING =
        "s10;w3,2;w5,4;w6,1;w9,6;k2;t5;m0,9,5;m1,6,3;m2,8,0;m3,4,2;m0,1,4;f20;";

    private static final int MOST_LETTERS = 200, FIRST_LETTER = 32, LAST_LETTER = 126;
    private static final int MOST_NUMBERS = 3, MOST_FIGURES = 2;
    private static final int FEWEST_STEPS = 3, MOST_STEPS = 16, USUAL_STEPS = 10;
    private static final int MOST_MINISTERS = 7, MOST_GRIP = 9;
    private static final int VELVET = 1, GAITERED = 2, HOLDER = 3;
    private static final int HOLDER_GRIPS_MORE = 3, BRAKE = 2, VELVET_BRAKE = 4;
    private static final int MOST_WAX = 9, WAX_COSTS = 1, SAND_TAKES = 2, SAND_COSTS = 2;
    private static final int MOST_FUNDS = 99, USUAL_FUNDS = 20, FUNDS_A_YEAR = 3;
    private static final int LAST_YEAR = 999, MOST_YEARS_AT_ONCE = 40;
    private static final int MOST_UNDONE = 8, MOST_KEPT = 2, MOST_SEEN = 6;
    private static final int MOST_PLOT_YEARS = 9, MOST_SAND = 5;
    private static final int MOST_CHANCES = 6, CHANCES_OF = 10;
    private static final int LAST_DRAWER = 9999, LONGEST_CENTURY = 60;

    private final Text text = new Text();
    private final Reader reader = new Reader();
    private final Plan plan = new Plan();
    private final Standing now = new Standing(plan);
    private final Standing trial = new Standing(plan);
    private final Shelf undoable = new Shelf(plan, MOST_UNDONE);
    private final Shelf kept = new Shelf(plan, MOST_KEPT);
    private final Sightings sightings = new Sightings();

    public BannisterCabinet() {
        for (int i = 0; i < OPENING.length(); i++) {
            text.add(OPENING.charAt(i));
        }
        layOut();
        text.length = 0;
    }

    // ---- stairs

    public int write(int letter) {
        if (!within(letter, FIRST_LETTER, LAST_LETTER)) {
            return BAD;
        }
        return text.add((char) letter) ? text.length : FULL;
    }

    public int wipe() {
        int length = text.length;
        text.length = 0;
        return length;
    }

    public int fault() {
        return reader.firstFault(text);
    }

    public int lay() {
        return layOut() ? plan.ministers : NO;
    }

    public int minister(int m, int what) {
        if (!plan.hasMinister(m)) {
            return BAD;
        }
        switch (what) {
            case 0: return plan.kind[m];
            case 1: return now.place[m];
            case 2: return now.grip[m];
            case 3: return now.reign[m];
            case 4: return now.speedOf(m) > 0 ? 1 : 0;
            default: return BAD;
        }
    }

    public int step(int x, int what) {
        if (!plan.hasStep(x)) {
            return BAD;
        }
        switch (what) {
            case 0: return now.wax[x];
            case 1: return plan.hasKnob(x) ? 1 : 0;
            case 2: return plan.hasTurn(x) ? 1 : 0;
            case 3: return now.howManyOn(x);
            default: return BAD;
        }
    }

    // ---- acts

    public int pass(int n) {
        if (!within(n, 1, MOST_YEARS_AT_ONCE)) {
            return BAD;
        }
        if (now.year + n > LAST_YEAR) {
            return NO;
        }
        undoable.put(now);
        now.goOn(n);
        return now.year;
    }

    public int wax(int x) {
        if (!plan.hasStep(x)) {
            return BAD;
        }
        if (now.wax[x] >= MOST_WAX || now.funds < WAX_COSTS) {
            return NO;
        }
        undoable.put(now);
        now.funds -= WAX_COSTS;
        now.addWax(x, 1);
        return now.wax[x];
    }

    public int sand(int x) {
        if (!plan.hasStep(x)) {
            return BAD;
        }
        if (now.wax[x] == 0 || now.funds < SAND_COSTS) {
            return NO;
        }
        undoable.put(now);
        now.funds -= SAND_COSTS;
        now.addWax(x, -SAND_TAKES);
        return now.wax[x];
    }

    public int help(int m) {
        if (!plan.hasMinister(m)) {
            return BAD;
        }
        int from = now.place[m];
        if (from == 0) {
            return NO;
        }
        undoable.put(now);
        now.place[m] = 0;
        return from;
    }

    public int undo() {
        return undoable.takeLatest(now) ? undoable.size : NO;
    }

    // ---- what comes

    public int governs() {
        return now.governor();
    }

    public int behind(int n, int m, int what) {
        if (!within(n, 0, MOST_YEARS_AT_ONCE) || !plan.hasMinister(m) || !within(what, 0, 2)) {
            return BAD;
        }
        trial.copy(now);
        trial.goOn(n);
        switch (what) {
            case 0: return trial.place[m];
            case 1: return trial.governor();
            default: return trial.reign[m];
        }
    }

    public int slide(int m) {
        if (!plan.hasMinister(m)) {
            return BAD;
        }
        trial.copy(now);
        trial.oneYear();
        return trial.place[m];
    }

    public int top(int m) {
        if (!plan.hasMinister(m)) {
            return BAD;
        }
        trial.copy(now);
        for (int years = 0; years <= MOST_YEARS_AT_ONCE; years++) {
            if (plan.isTop(trial.place[m])) {
                return years;
            }
            trial.oneYear();
        }
        return NONE;
    }

    public int topple(int m) {
        if (!plan.hasMinister(m)) {
            return BAD;
        }
        int x = now.place[m];
        if (!plan.hasStep(x)) {
            return NONE;
        }
        for (int more = 0; now.wax[x] + more <= MOST_WAX; more++) {
            trial.copy(now);
            trial.wax[x] += more;
            if (trial.slipsAtHisTurn(m)) {
                return more;
            }
        }
        return NONE;
    }

    public int plot(int m, int n, int what) {
        if (!plan.hasMinister(m) || !within(n, 1, MOST_PLOT_YEARS) || !within(what, 0, 1)) {
            return BAD;
        }
        if (governsByWax(m, n, 0, 0)) {
            return what == 0 ? 0 : NONE;
        }
        for (int more = 1; more <= MOST_WAX; more++) {
            for (int x = 0; x < plan.steps; x++) {
                if (governsByWax(m, n, x, more)) {
                    return what == 0 ? more : x;
                }
            }
        }
        return NONE;
    }

    public int hold(int n, int what) {
        if (!within(n, 1, MOST_PLOT_YEARS) || !within(what, 0, 1)) {
            return BAD;
        }
        if (holdsBySand(n, 0, 0)) {
            return what == 0 ? 0 : NONE;
        }
        for (int times = 1; times <= MOST_SAND; times++) {
            for (int x = 0; x < plan.steps; x++) {
                if (holdsBySand(n, x, times)) {
                    return what == 0 ? times : x;
                }
            }
        }
        return NONE;
    }

    public int cabinet(int what) {
        if (!within(what, 0, 1)) {
            return BAD;
        }
        int set = smallestCabinet();
        return what == 0 ? Integer.bitCount(set) : set;
    }

    // ---- what was seen

    public int seen(int m, int x) {
        if (!plan.hasMinister(m) || !plan.hasStep(x)) {
            return BAD;
        }
        return sightings.add(m, x) ? sightings.size : FULL;
    }

    public int forget() {
        int size = sightings.size;
        sightings.size = 0;
        return size;
    }

    public int waxes(int x) {
        if (!plan.hasStep(x)) {
            return BAD;
        }
        int bits = 0;
        for (int wax = 0; wax <= MOST_WAX; wax++) {
            trial.copy(now);
            trial.wax[x] = wax;
            bits |= bitIfSeen(wax);
        }
        return bits;
    }

    public int grips(int m) {
        if (!plan.hasMinister(m)) {
            return BAD;
        }
        int bits = 0;
        for (int grip = 0; grip <= MOST_GRIP; grip++) {
            trial.copy(now);
            trial.grip[m] = grip;
            bits |= bitIfSeen(grip);
        }
        return bits;
    }

    // ---- chances, centuries

    public int likely(int m, int n, int x, int part) {
        if (!plan.hasMinister(m) || !within(n, 0, MOST_CHANCES)
            || !within(x, 0, CHANCES_OF) || !within(part, 0, 1)) {
            return BAD;
        }
        int above = 0;
        for (int path = 0; path < 1 << n; path++) {
            int weight = weightOf(path, n, x);
            if (weight > 0 && governsByPath(m, n, path)) {
                above += weight;
            }
        }
        int below = power(CHANCES_OF, n);
        int common = commonDivisor(above, below);
        return (part == 0 ? above : below) / common;
    }

    public int century(int z, int n, int what) {
        if (!within(z, 0, LAST_DRAWER) || !within(n, 1, LONGEST_CENTURY) || !within(what, 0, 1)) {
            return BAD;
        }
        trial.copy(now);
        int governor = trial.governor();
        int changes = 0;
        for (int year = 0; year < n; year++) {
            trial.weather(draw(z, year));
            trial.oneYear();
            int next = trial.governor();
            if (next != governor) {
                changes++;
            }
            governor = next;
        }
        return what == 0 ? governor : changes;
    }

    // ---- kept

    public int keep() {
        if (kept.isFull()) {
            return FULL;
        }
        kept.put(now);
        return kept.size;
    }

    public int back() {
        if (!kept.takeLatest(now)) {
            return NO;
        }
        undoable.size = 0;
        return kept.size;
    }

    public int count(int what) {
        switch (what) {
            case 0: return plan.ministers;
            case 1: return plan.steps;
            case 2: return now.year;
            case 3: return now.funds;
            case 4: return now.allWax();
            case 5: return sightings.size;
            case 6: return undoable.size;
            case 7: return kept.size;
            case 8: return text.length;
            default: return BAD;
        }
    }

    /** Lays THE TEXT, if it can be, and answers whether it could. */
    private boolean layOut() {
        if (reader.firstFault(text) != NONE || reader.plan.ministers == 0) {
            return false;
        }
        plan.copy(reader.plan);
        now.copy(reader.start);
        sightings.size = 0;
        undoable.size = 0;
        kept.size = 0;
        return true;
    }

    private boolean governsByWax(int m, int n, int x, int more) {
        if (!plan.hasStep(x) || now.wax[x] + more > MOST_WAX) {
            return false;
        }
        trial.copy(now);
        trial.wax[x] += more;
        trial.goOn(n);
        return trial.governor() == m;
    }

    private boolean holdsBySand(int n, int x, int times) {
        int governor = now.governor();
        trial.copy(now);
        trial.addWax(x, -SAND_TAKES * times);
        for (int year = 0; year < n; year++) {
            trial.oneYear();
            if (trial.governor() != governor) {
                return false;
            }
        }
        return true;
    }

    /** The set of MINISTERS, as bits, that makes the CABINET. */
    private int smallestCabinet() {
        int all = (1 << plan.ministers) - 1;
        int whole = now.weightOfSet(all);
        int best = all;
        // upwards, and only for fewer: so the lowest of the fewest is left
        for (int set = 0; set < all; set++) {
            if (2 * now.weightOfSet(set) > whole && Integer.bitCount(set) < Integer.bitCount(best)) {
                best = set;
            }
        }
        return best;
    }

    /** Lets a YEAR go by in the trial: the bit of that value, if all that is SEEN is so then. */
    private int bitIfSeen(int value) {
        trial.oneYear();
        return sightings.allHoldIn(trial) ? 1 << value : 0;
    }

    /** How many of 10^n chances lead along a path, whose bits tell ahead of which YEAR there comes WAX. */
    private static int weightOf(int path, int n, int x) {
        int waxed = Integer.bitCount(path);
        return power(x, waxed) * power(CHANCES_OF - x, n - waxed);
    }

    private boolean governsByPath(int m, int n, int path) {
        trial.copy(now);
        for (int year = 0; year < n; year++) {
            if ((path >> year & 1) == 1) {
                trial.addWax(trial.place[trial.governor()], 2);
            }
            trial.oneYear();
        }
        return trial.governor() == m;
    }

    private static int draw(int z, int year) {
        long x = 7919L * z + 6151L * year + 1;
        return (int) (x * x % 65521 / 2);
    }

    private static int power(int base, int times) {
        int product = 1;
        for (int i = 0; i < times; i++) {
            product *= base;
        }
        return product;
    }

    private static int commonDivisor(int a, int b) {
        int larger = b;
        int smaller = a;
        // far more rounds than Euclid needs for numbers of an int
        for (int i = 0; i < 100 && smaller != 0; i++) {
            int rest = larger % smaller;
            larger = smaller;
            smaller = rest;
        }
        return Math.max(larger, 1);
    }

    private static boolean within(int number, int least, int most) {
        return number >= least && number <= most;
    }

    /** THE TEXT: its letters, as far as length tells. */
    private static final class Text {
        final char[] letters = new char[MOST_LETTERS];
        int length = 0;

        boolean add(char letter) {
            if (length >= letters.length) {
                return false;
            }
            letters[length] = letter;
            length++;
            return true;
        }
    }

    /** Reads a TEXT into a plan and a start of its own, so that nothing else changes if there is a FAULT. */
    private static final class Reader {
        final Plan plan = new Plan();
        final Standing start = new Standing(plan);
        final int[] numbers = new int[MOST_NUMBERS];
        int numbersRead = 0;
        boolean onlySteps = true;

        int firstFault(Text text) {
            plan.clear();
            start.clear();
            onlySteps = true;
            int from = 0;
            // an ITEM takes a letter at least, so there are no more ITEMS than letters
            for (int item = 0; item < text.length && from < text.length; item++) {
                int end = readNumbers(text, from + 1);
                if (end == NONE || !takeItem(text.letters[from])) {
                    return from;
                }
                from = end;
            }
            return NONE;
        }

        /** Reads an ITEM's numbers: the place behind its ; (NONE: they are not so). */
        private int readNumbers(Text text, int from) {
            numbersRead = 0;
            int number = 0;
            int figures = 0;
            for (int at = from; at < text.length; at++) {
                char letter = text.letters[at];
                if (letter >= '0' && letter <= '9' && figures < MOST_FIGURES) {
                    number = 10 * number + letter - '0';
                    figures++;
                } else if ((letter == ',' || letter == ';') && figures > 0 && addNumber(number)) {
                    if (letter == ';') {
                        return at + 1;
                    }
                    number = 0;
                    figures = 0;
                } else {
                    return NONE;
                }
            }
            return NONE;
        }

        private boolean addNumber(int number) {
            if (numbersRead >= numbers.length) {
                return false;
            }
            numbers[numbersRead] = number;
            numbersRead++;
            return true;
        }

        /** Takes the ITEM of that letter and the numbers read, and answers whether it is so. */
        private boolean takeItem(char letter) {
            if (letter == 's') {
                return onlySteps && takeSteps();
            }
            onlySteps = false;
            switch (letter) {
                case 'w': return takeWax();
                case 'k': return takeKnob();
                case 't': return takeTurning();
                case 'm': return takeMinister();
                case 'f': return takeFunds();
                default: return false;
            }
        }

        private boolean takeSteps() {
            if (numbersRead != 1 || !within(numbers[0], FEWEST_STEPS, MOST_STEPS)) {
                return false;
            }
            plan.steps = numbers[0];
            return true;
        }

        private boolean takeWax() {
            int x = numbers[0];
            if (numbersRead != 2 || !plan.hasStep(x) || numbers[1] > MOST_WAX) {
                return false;
            }
            start.wax[x] = numbers[1];
            return true;
        }

        private boolean takeKnob() {
            if (!tellsOneStep()) {
                return false;
            }
            plan.knobs |= 1 << numbers[0];
            return true;
        }

        private boolean takeTurning() {
            if (!tellsOneStep()) {
                return false;
            }
            plan.turns |= 1 << numbers[0];
            return true;
        }

        private boolean tellsOneStep() {
            return numbersRead == 1 && plan.hasStep(numbers[0]);
        }

        private boolean takeMinister() {
            int m = plan.ministers;
            if (numbersRead != 3 || m >= MOST_MINISTERS || numbers[0] > HOLDER
                || !plan.hasStep(numbers[1]) || numbers[2] > MOST_GRIP) {
                return false;
            }
            plan.kind[m] = numbers[0];
            start.place[m] = numbers[1];
            start.grip[m] = numbers[2];
            plan.ministers++;
            return true;
        }

        private boolean takeFunds() {
            if (numbersRead != 1) {
                return false;
            }
            start.funds = numbers[0];
            return true;
        }
    }

    /** The stair and the MINISTERS' KINDS: what nothing but a TEXT that is LAID changes. */
    private static final class Plan {
        final int[] kind = new int[MOST_MINISTERS];
        int ministers = 0;
        int steps = USUAL_STEPS;
        /** A bit for each STEP that has one. */
        int knobs = 0;
        int turns = 0;

        void clear() {
            ministers = 0;
            steps = USUAL_STEPS;
            knobs = 0;
            turns = 0;
        }

        void copy(Plan other) {
            System.arraycopy(other.kind, 0, kind, 0, kind.length);
            ministers = other.ministers;
            steps = other.steps;
            knobs = other.knobs;
            turns = other.turns;
        }

        boolean hasMinister(int m) {
            return m >= 0 && m < ministers;
        }

        boolean hasStep(int x) {
            return x >= 0 && x < steps;
        }

        boolean isTop(int x) {
            return x == steps - 1;
        }

        boolean hasKnob(int x) {
            return (knobs >> x & 1) == 1;
        }

        boolean hasTurn(int x) {
            return (turns >> x & 1) == 1;
        }
    }

    /** How all stands at one time; the plan is shared by all that are made for it. */
    private static final class Standing {
        final Plan plan;
        final int[] wax = new int[MOST_STEPS];
        final int[] place = new int[MOST_MINISTERS];
        final int[] grip = new int[MOST_MINISTERS];
        final int[] reign = new int[MOST_MINISTERS];
        int funds = USUAL_FUNDS;
        int year = 0;

        Standing(Plan plan) {
            this.plan = plan;
        }

        void clear() {
            Arrays.fill(wax, 0);
            Arrays.fill(place, 0);
            Arrays.fill(grip, 0);
            Arrays.fill(reign, 0);
            funds = USUAL_FUNDS;
            year = 0;
        }

        void copy(Standing other) {
            System.arraycopy(other.wax, 0, wax, 0, wax.length);
            System.arraycopy(other.place, 0, place, 0, place.length);
            System.arraycopy(other.grip, 0, grip, 0, grip.length);
            System.arraycopy(other.reign, 0, reign, 0, reign.length);
            funds = other.funds;
            year = other.year;
        }

        int governor() {
            int highest = 0;
            for (int m = 1; m < plan.ministers; m++) {
                if (place[m] > place[highest]) {
                    highest = m;
                }
            }
            return highest;
        }

        int howManyOn(int x) {
            int many = 0;
            for (int m = 0; m < plan.ministers; m++) {
                if (place[m] == x) {
                    many++;
                }
            }
            return many;
        }

        int allWax() {
            int all = 0;
            for (int x = 0; x < plan.steps; x++) {
                all += wax[x];
            }
            return all;
        }

        /** The STEPS, each 1 more, of a set of MINISTERS together. */
        int weightOfSet(int set) {
            int weight = 0;
            for (int m = 0; m < plan.ministers; m++) {
                if ((set >> m & 1) == 1) {
                    weight += place[m] + 1;
                }
            }
            return weight;
        }

        /** More WAX (less, if below 0) at a STEP, never beyond what there can be. */
        void addWax(int x, int more) {
            if (plan.hasStep(x)) {
                wax[x] = Math.max(0, Math.min(MOST_WAX, wax[x] + more));
            }
        }

        void goOn(int years) {
            for (int i = 0; i < years; i++) {
                oneYear();
            }
        }

        void oneYear() {
            for (int m = 0; m < plan.ministers; m++) {
                takeTurn(m);
            }
            reign[governor()]++;
            funds = Math.min(MOST_FUNDS, funds + FUNDS_A_YEAR);
            year++;
        }

        /** Lets those ahead of him take their turns in a YEAR, and answers whether he SLIPS at his. */
        boolean slipsAtHisTurn(int minister) {
            for (int m = 0; m < minister; m++) {
                takeTurn(m);
            }
            return speedOf(minister) > 0;
        }

        /** The SPEED by which he would SLIP now (0 or less: he does not). */
        int speedOf(int m) {
            int x = place[m];
            if (!plan.hasStep(x)) {
                return 0;
            }
            int more = plan.kind[m] == HOLDER && plan.isTop(x) ? HOLDER_GRIPS_MORE : 0;
            return wax[x] - grip[m] - more;
        }

        private void takeTurn(int m) {
            int speed = speedOf(m);
            if (speed > 0) {
                comeDown(m, speed);
            } else if (!plan.isTop(place[m])) {
                place[m]++;
            }
        }

        private void comeDown(int m, int firstSpeed) {
            int brake = plan.kind[m] == VELVET ? VELVET_BRAKE : BRAKE;
            boolean gaitered = plan.kind[m] == GAITERED;
            int speed = firstSpeed;
            int at = place[m];
            for (; at > 0 && speed > 0; at--) {
                wax[at] = Math.max(0, wax[at] - 1);
                boolean stops = plan.hasKnob(at - 1) || gaitered && plan.hasTurn(at - 1);
                speed = stops ? 0 : speed + wax[at - 1] - brake;
            }
            place[m] = at;
        }

        /** What a YEAR of a CENTURY brings ahead of it, by its DRAW. */
        void weather(int draw) {
            if (plan.steps <= 0) {
                return;
            }
            if (draw / 16 % 2 == 0) {
                addWax(draw % plan.steps, 1);
            }
            if (draw / 512 % 3 == 0) {
                addWax(draw / 32 % plan.steps, -2);
            }
        }
    }

    /** Standings laid one upon the other; when there are too many, the oldest is lost. */
    private static final class Shelf {
        final Standing[] rows;
        int size = 0;
        /** Where the next one goes: the rows are used in a ring. */
        int next = 0;

        Shelf(Plan plan, int most) {
            rows = new Standing[Math.max(1, most)];
            for (int i = 0; i < rows.length; i++) {
                rows[i] = new Standing(plan);
            }
        }

        boolean isFull() {
            return size >= rows.length;
        }

        void put(Standing standing) {
            rows[next].copy(standing);
            next = next + 1 < rows.length ? next + 1 : 0;
            size = Math.min(size + 1, rows.length);
        }

        /** Takes the latest one off into that, and answers whether there was one. */
        boolean takeLatest(Standing into) {
            if (size == 0) {
                return false;
            }
            next = next > 0 ? next - 1 : rows.length - 1;
            into.copy(rows[next]);
            size--;
            return true;
        }
    }

    /** What is SEEN: who is on which STEP by the next YEAR. */
    private static final class Sightings {
        final int[] who = new int[MOST_SEEN];
        final int[] where = new int[MOST_SEEN];
        int size = 0;

        boolean add(int m, int x) {
            if (size >= MOST_SEEN) {
                return false;
            }
            who[size] = m;
            where[size] = x;
            size++;
            return true;
        }

        boolean allHoldIn(Standing standing) {
            for (int i = 0; i < size; i++) {
                if (standing.place[who[i]] != where[i]) {
                    return false;
                }
            }
            return true;
        }
    }
}
