/**
 * A shop of embossing rollers: pairs that mesh on thin card, runs that wear them, texts of orders,
 * undo and saved states.
 *
 * <p>All arrays are made in the constructors, so that no call makes an object.
 */
public final class RollerMesh {
    public static final int NO_SUCH = -1, BAD_VALUE = -2, BAD_TEXT = -3, TOO_MANY = -4, NOT_POSSIBLE = -5, NONE = -6;
    public static final int SLACK = 0, PULL = 1, WEAR = 2;

    private static final int FINE = 0;
    private static final int MOST_OFFSET = 23, MOST_GAP = 30;
    private static final int MOST_CARDS = 99, MOST_STEPS = 99;
    private static final int MOST_THICKNESS = 30, MOST_STRENGTH = 30;
    private static final int HIGHEST = 9;

    private final Shop shop;
    private final History history;
    private final Slots slots;
    private final Pad pad;
    private final Reader reader;
    private final Turn turn;

    public RollerMesh() {
        shop = new Shop();
        history = new History();
        slots = new Slots();
        pad = new Pad();
        reader = new Reader(pad);
        turn = new Turn();
    }

    // ---- changes

    public int set(int setting, int value) {
        history.prepare(shop);
        return history.recorded(shop.changeSetting(setting, value));
    }

    public int roller(int teeth, int height) {
        history.prepare(shop);
        return history.recorded(shop.addRoller(teeth, height));
    }

    public int file(int roller, int tooth, int height) {
        history.prepare(shop);
        return history.recorded(shop.fileTooth(roller, tooth, height));
    }

    public int melt(int roller) {
        history.prepare(shop);
        return history.recorded(shop.meltRoller(roller));
    }

    public int card(int thickness, int strength) {
        history.prepare(shop);
        return history.recorded(shop.changeCard(thickness, strength));
    }

    public int run(int upper, int lower, int offset, int gap, int cards, int steps) {
        history.prepare(shop);
        return history.recorded(runCards(upper, lower, offset, gap, cards, steps));
    }

    private int runCards(int upper, int lower, int offset, int gap, int cards, int steps) {
        int error = pairError(upper, lower, offset, gap);
        if (error != FINE) {
            return error;
        }
        if (outside(cards, 1, MOST_CARDS) || outside(steps, 1, MOST_STEPS)) {
            return BAD_VALUE;
        }
        turn.lay(shop, upper, lower, offset, gap);
        if (!turn.meshes(shop.setting(SLACK))) {
            return NOT_POSSIBLE;
        }
        turn.begin();
        int torn = 0;
        for (int card = 0; card < cards; card++) {
            if (turn.tears(steps, shop.cell(Shop.THICKNESS), shop.cell(Shop.STRENGTH), shop.setting(PULL))) {
                torn++;
            }
        }
        shop.countRun(cards, torn, turn.taken());
        shop.turnRoller(upper, turn.taken());
        shop.turnRoller(lower, turn.taken());
        return torn;
    }

    // ---- what there is

    public int of(int roller, int what) {
        if (!shop.has(roller)) {
            return NO_SUCH;
        }
        switch (what) {
            case 0:
                return shop.teeth(roller);
            case 1:
                return shop.teethOfSign(roller, 1);
            case 2:
                return shop.teethOfSign(roller, -1);
            case 3:
                return shop.greatestHeight(roller) + HIGHEST;
            case 4:
                return shop.leastHeight(roller) + HIGHEST;
            case 5:
                return shop.stepsSinceWorn(roller);
            case 6:
                return shop.timesWorn(roller);
            default:
                return BAD_VALUE;
        }
    }

    public int tooth(int roller, int tooth) {
        return shop.hasTooth(roller, tooth) ? shop.height(roller, tooth) + HIGHEST : NO_SUCH;
    }

    public int count(int what) {
        if (outside(what, 0, 10)) {
            return BAD_VALUE;
        }
        if (what == 9) {
            return pad.length();
        }
        return what == 10 ? history.length() : shop.cell(what);
    }

    // ---- pairs; nothing changes

    public int pair(int upper, int lower, int offset, int gap, int what) {
        int error = questionError(upper, lower, offset, gap, what, 3);
        if (error != FINE) {
            return error;
        }
        turn.lay(shop, upper, lower, offset, gap);
        switch (what) {
            case 0:
                return turn.length();
            case 1:
                return turn.leastPress() + 100;
            case 2:
                return turn.greatestPress() + 100;
            default:
                return turn.meshes(shop.setting(SLACK)) ? 1 : 0;
        }
    }

    public int why(int upper, int lower, int offset, int gap, int what) {
        int error = questionError(upper, lower, offset, gap, what, 1);
        if (error != FINE) {
            return error;
        }
        turn.lay(shop, upper, lower, offset, gap);
        int step = turn.firstBadStep(shop.setting(SLACK));
        if (what == 1) {
            return step;
        }
        if (step == NONE) {
            return 0;
        }
        return turn.press(step) < 1 ? 1 : 2;
    }

    public int leastGap(int upper, int lower, int offset) {
        int error = pairError(upper, lower, offset, 0);
        return error != FINE ? error : gapToMesh(upper, lower, offset);
    }

    public int bestOffset(int upper, int lower, int what) {
        int error = questionError(upper, lower, 0, 0, what, 1);
        if (error != FINE) {
            return error;
        }
        int bestOffset = NONE;
        int bestGap = NONE;
        // Offsets repeat behind the teeth of the lower roller, and of several the lowest one counts.
        int offsets = Math.min(shop.teeth(lower), MOST_OFFSET + 1);
        for (int offset = 0; offset < offsets; offset++) {
            int gap = gapToMesh(upper, lower, offset);
            if (gap != NONE && (bestGap == NONE || gap < bestGap)) {
                bestOffset = offset;
                bestGap = gap;
            }
        }
        return what == 0 ? bestOffset : bestGap;
    }

    public int thickest(int upper, int lower, int offset, int gap) {
        int error = pairError(upper, lower, offset, gap);
        if (error != FINE) {
            return error;
        }
        turn.lay(shop, upper, lower, offset, gap);
        if (!turn.meshes(shop.setting(SLACK))) {
            return NONE;
        }
        for (int thickness = MOST_THICKNESS; thickness >= 1; thickness--) {
            turn.begin();
            if (!turn.tears(turn.length(), thickness, shop.cell(Shop.STRENGTH), shop.setting(PULL))) {
                return thickness;
            }
        }
        return NONE;
    }

    private int gapToMesh(int upper, int lower, int offset) {
        turn.lay(shop, upper, lower, offset, 0);
        if (!turn.isSmooth(shop.setting(SLACK))) {
            return NONE;
        }
        // A gap adds as much to each press, so it mends low presses and leaves the differences.
        int gap = Math.max(0, 1 - turn.leastPress());
        return gap <= MOST_GAP ? gap : NONE;
    }

    private int questionError(int upper, int lower, int offset, int gap, int what, int mostWhat) {
        int error = pairError(upper, lower, offset, gap);
        if (error != FINE) {
            return error;
        }
        return outside(what, 0, mostWhat) ? BAD_VALUE : FINE;
    }

    private int pairError(int upper, int lower, int offset, int gap) {
        if (!shop.has(upper) || !shop.has(lower)) {
            return NO_SUCH;
        }
        boolean bad = upper == lower || outside(offset, 0, MOST_OFFSET) || outside(gap, 0, MOST_GAP);
        return bad ? BAD_VALUE : FINE;
    }

    private static boolean outside(int value, int least, int most) {
        return value < least || value > most;
    }

    // ---- texts

    public int put(long characters) {
        return pad.append(characters);
    }

    public int wipe() {
        return pad.clear();
    }

    public int fault() {
        return reader.firstFault();
    }

    public int carryOut() {
        if (reader.firstFault() != NONE) {
            return BAD_TEXT;
        }
        history.prepare(shop);
        reader.begin();
        int done = 0;
        while (done < Pad.MOST && reader.readOrder() && obey() >= 0) {
            done++;
            reader.skip(';');
        }
        pad.clear();
        return history.recorded(done);
    }

    private int obey() {
        switch (reader.kind()) {
            case '+':
                return addRollerOfText();
            case 'r':
                return runCards(reader.number(0), reader.number(1), reader.number(2), reader.number(3),
                        reader.number(4), reader.number(5));
            case 'm':
                return shop.meltRoller(reader.number(0));
            case 'f':
                return shop.fileTooth(reader.number(0), reader.number(1), reader.number(2));
            default:
                return BAD_TEXT;
        }
    }

    private int addRollerOfText() {
        int teeth = reader.numbers();
        int added = shop.addRoller(teeth, 0);
        if (added < 0) {
            return added;
        }
        for (int tooth = 0; tooth < teeth; tooth++) {
            shop.fileTooth(added, tooth, reader.number(tooth));
        }
        return added;
    }

    // ---- undo, saving

    public int undo() {
        return history.stepBack(shop);
    }

    public int save(int slot) {
        return slots.keep(slot, shop);
    }

    public int restore(int slot) {
        history.prepare(shop);
        return history.recorded(slots.fetch(slot, shop));
    }

    /** What is undone and saved, in one row of cells, so that a state is copied at one go. */
    private static final class Shop {
        // The first cells stand in the order in which count() names them.
        static final int ROLLERS = 0, THICKNESS = 1, STRENGTH = 2, CARDS = 3, TORN = 4, STEPS = 5;
        private static final int SETTINGS = 6, FIRST_ROLLER = 9;
        // The cells of one roller, from its first one on.
        private static final int TEETH = 0, STEPS_SINCE_WORN = 1, TIMES_WORN = 2, HEIGHTS = 3;
        private static final int LEAST_TEETH = 2, MOST_TEETH = 24, MOST_ROLLERS = 8;
        private static final int ROLLER_SIZE = HEIGHTS + MOST_TEETH;
        static final int SIZE = FIRST_ROLLER + MOST_ROLLERS * ROLLER_SIZE;

        private final int[] cells = new int[SIZE];

        Shop() {
            cells[THICKNESS] = 5;
            cells[STRENGTH] = 5;
            cells[SETTINGS + SLACK] = 6;
            cells[SETTINGS + PULL] = 4;
            cells[SETTINGS + WEAR] = 20;
        }

        int cell(int at) {
            return at >= 0 && at < cells.length ? cells[at] : 0;
        }

        private void change(int at, int value) {
            if (at >= 0 && at < cells.length) {
                cells[at] = value;
            }
        }

        private void raise(int at, int by) {
            change(at, cell(at) + by);
        }

        int setting(int setting) {
            return cell(SETTINGS + setting);
        }

        int changeSetting(int setting, int value) {
            if (outside(setting, SLACK, WEAR)) {
                return BAD_VALUE;
            }
            boolean bad = setting == WEAR ? outside(value, 1, 99) : outside(value, 0, 30);
            if (bad) {
                return BAD_VALUE;
            }
            int previous = setting(setting);
            change(SETTINGS + setting, value);
            return previous;
        }

        int changeCard(int thickness, int strength) {
            if (outside(thickness, 1, MOST_THICKNESS) || outside(strength, 0, MOST_STRENGTH)) {
                return BAD_VALUE;
            }
            int previous = cell(THICKNESS);
            change(THICKNESS, thickness);
            change(STRENGTH, strength);
            return previous;
        }

        boolean has(int roller) {
            return roller >= 0 && roller < cell(ROLLERS);
        }

        boolean hasTooth(int roller, int tooth) {
            return has(roller) && tooth >= 0 && tooth < teeth(roller);
        }

        private static int placeOf(int roller) {
            return FIRST_ROLLER + roller * ROLLER_SIZE;
        }

        int teeth(int roller) {
            return cell(placeOf(roller) + TEETH);
        }

        int stepsSinceWorn(int roller) {
            return cell(placeOf(roller) + STEPS_SINCE_WORN);
        }

        int timesWorn(int roller) {
            return cell(placeOf(roller) + TIMES_WORN);
        }

        int height(int roller, int tooth) {
            return cell(placeOf(roller) + HEIGHTS + tooth);
        }

        private void shape(int roller, int tooth, int height) {
            change(placeOf(roller) + HEIGHTS + tooth, height);
        }

        int addRoller(int teeth, int height) {
            if (outside(teeth, LEAST_TEETH, MOST_TEETH) || outside(height, -HIGHEST, HIGHEST)) {
                return BAD_VALUE;
            }
            int roller = cell(ROLLERS);
            if (roller >= MOST_ROLLERS) {
                return TOO_MANY;
            }
            change(placeOf(roller) + TEETH, teeth);
            change(placeOf(roller) + STEPS_SINCE_WORN, 0);
            change(placeOf(roller) + TIMES_WORN, 0);
            for (int tooth = 0; tooth < teeth; tooth++) {
                shape(roller, tooth, height);
            }
            raise(ROLLERS, 1);
            return roller;
        }

        int fileTooth(int roller, int tooth, int height) {
            if (!hasTooth(roller, tooth)) {
                return NO_SUCH;
            }
            if (outside(height, -HIGHEST, HIGHEST)) {
                return BAD_VALUE;
            }
            int previous = height(roller, tooth);
            shape(roller, tooth, height);
            return previous + HIGHEST;
        }

        int meltRoller(int roller) {
            if (!has(roller)) {
                return NO_SUCH;
            }
            int left = cell(ROLLERS) - 1;
            for (int at = placeOf(roller); at < placeOf(left); at++) {
                change(at, cell(at + ROLLER_SIZE));
            }
            change(ROLLERS, left);
            return left;
        }

        int teethOfSign(int roller, int sign) {
            int set = 0;
            for (int tooth = 0; tooth < teeth(roller); tooth++) {
                if (height(roller, tooth) * sign > 0) {
                    set |= 1 << tooth;
                }
            }
            return set;
        }

        int greatestHeight(int roller) {
            int greatest = height(roller, 0);
            for (int tooth = 1; tooth < teeth(roller); tooth++) {
                greatest = Math.max(greatest, height(roller, tooth));
            }
            return greatest;
        }

        int leastHeight(int roller) {
            int least = height(roller, 0);
            for (int tooth = 1; tooth < teeth(roller); tooth++) {
                least = Math.min(least, height(roller, tooth));
            }
            return least;
        }

        void countRun(int cards, int torn, int steps) {
            raise(CARDS, cards);
            raise(TORN, torn);
            raise(STEPS, steps);
        }

        void turnRoller(int roller, int steps) {
            raise(placeOf(roller) + STEPS_SINCE_WORN, steps);
            if (stepsSinceWorn(roller) >= setting(WEAR) * teeth(roller)) {
                wearDown(roller);
            }
        }

        private void wearDown(int roller) {
            int teeth = teeth(roller);
            for (int tooth = 0; tooth < teeth; tooth++) {
                int height = height(roller, tooth);
                if (height > 0) {
                    shape(roller, tooth, height - 1);
                }
            }
            change(placeOf(roller) + STEPS_SINCE_WORN, 0);
            raise(placeOf(roller) + TIMES_WORN, 1);
        }

        void copyTo(int[] states, int place) {
            if (place >= 0 && place < states.length / SIZE) {
                System.arraycopy(cells, 0, states, place * SIZE, SIZE);
            }
        }

        void copyFrom(int[] states, int place) {
            if (place >= 0 && place < states.length / SIZE) {
                System.arraycopy(states, place * SIZE, cells, 0, SIZE);
            }
        }
    }

    /** The presses of one turn of a pair, laid out anew for each question. */
    private static final class Turn {
        private static final int LONGEST = 24 * 23;

        private final int[] presses = new int[LONGEST];
        private int length;
        private int at;
        private int taken;

        void lay(Shop shop, int upper, int lower, int offset, int gap) {
            int upperTeeth = shop.teeth(upper);
            int lowerTeeth = shop.teeth(lower);
            length = Math.min(leastMultiple(upperTeeth, lowerTeeth), LONGEST);
            int up = 0;
            int low = lowerTeeth > 0 ? offset % lowerTeeth : 0;
            for (int step = 0; step < length && step < presses.length; step++) {
                presses[step] = gap - shop.height(upper, up) - shop.height(lower, low);
                up = next(up, upperTeeth);
                low = next(low, lowerTeeth);
            }
        }

        private static int leastMultiple(int one, int other) {
            for (int times = 1; times < other; times++) {
                if (one * times % other == 0) {
                    return one * times;
                }
            }
            return one * other;
        }

        private static int next(int place, int places) {
            return place + 1 < places ? place + 1 : 0;
        }

        int length() {
            return length;
        }

        int press(int step) {
            return step >= 0 && step < presses.length ? presses[step] : 0;
        }

        int leastPress() {
            int least = press(0);
            for (int step = 1; step < length; step++) {
                least = Math.min(least, press(step));
            }
            return least;
        }

        int greatestPress() {
            int greatest = press(0);
            for (int step = 1; step < length; step++) {
                greatest = Math.max(greatest, press(step));
            }
            return greatest;
        }

        private boolean isSmoothAt(int step, int slack) {
            int ahead = step > 0 ? step - 1 : length - 1;
            return Math.abs(press(step) - press(ahead)) <= slack;
        }

        boolean isSmooth(int slack) {
            for (int step = 0; step < length; step++) {
                if (!isSmoothAt(step, slack)) {
                    return false;
                }
            }
            return true;
        }

        /** The first step that speaks against meshing, NONE if the pair meshes. */
        int firstBadStep(int slack) {
            for (int step = 0; step < length; step++) {
                if (press(step) < 1 || !isSmoothAt(step, slack)) {
                    return step;
                }
            }
            return NONE;
        }

        boolean meshes(int slack) {
            return firstBadStep(slack) == NONE;
        }

        /** Cards are run from the step 0 on from here, each one behind the other. */
        void begin() {
            at = 0;
            taken = 0;
        }

        int taken() {
            return taken;
        }

        /** Runs one card, which is out at the step in which it tears. */
        boolean tears(int steps, int thickness, int strength, int pull) {
            int before = 0;
            for (int step = 0; step < steps; step++) {
                int pressed = Math.max(0, thickness - press(at));
                at = next(at, length);
                taken++;
                boolean pulled = step > 0 && Math.abs(pressed - before) > pull;
                if (pressed > strength || pulled) {
                    return true;
                }
                before = pressed;
            }
            return false;
        }
    }

    /** The states ahead of the latest changes, in a ring. */
    private static final class History {
        // One place more than are kept: a state is prepared before it is known whether the call fails.
        private static final int MOST = 6, PLACES = MOST + 1;

        private final int[] states = new int[PLACES * Shop.SIZE];
        private int free;
        private int length;

        int length() {
            return length;
        }

        void prepare(Shop shop) {
            shop.copyTo(states, free);
        }

        /** Keeps the prepared state, but not if the answer of the change is an error. */
        int recorded(int answer) {
            if (answer >= 0) {
                free = free + 1 < PLACES ? free + 1 : 0;
                length = Math.min(length + 1, MOST);
            }
            return answer;
        }

        int stepBack(Shop shop) {
            if (length == 0) {
                return NOT_POSSIBLE;
            }
            free = free > 0 ? free - 1 : PLACES - 1;
            length--;
            shop.copyFrom(states, free);
            return length;
        }
    }

    private static final class Slots {
        private static final int PLACES = 2;

        private final int[] states = new int[PLACES * Shop.SIZE];
        private int filled;

        int keep(int slot, Shop shop) {
            if (outside(slot, 0, PLACES - 1)) {
                return BAD_VALUE;
            }
            shop.copyTo(states, slot);
            filled |= 1 << slot;
            return shop.cell(Shop.ROLLERS);
        }

        int fetch(int slot, Shop shop) {
            if (outside(slot, 0, PLACES - 1)) {
                return BAD_VALUE;
            }
            if ((filled & 1 << slot) == 0) {
                return NOT_POSSIBLE;
            }
            shop.copyFrom(states, slot);
            return shop.cell(Shop.ROLLERS);
        }
    }

    private static final class Pad {
        static final int MOST = 80;
        private static final int MOST_AT_ONCE = 8, LEAST_CODE = 33, MOST_CODE = 126;

        private final int[] codes = new int[MOST];
        private int length;

        int length() {
            return length;
        }

        /** The code at a place, 0 where the text has ended. */
        int codeAt(int place) {
            return place >= 0 && place < length && place < codes.length ? codes[place] : 0;
        }

        int clear() {
            int previous = length;
            length = 0;
            return previous;
        }

        int append(long characters) {
            int amount = amountOf(characters);
            if (amount == 0) {
                return BAD_VALUE;
            }
            if (length + amount > MOST) {
                return TOO_MANY;
            }
            for (int back = amount - 1; back >= 0; back--) {
                add(codeIn(characters, back));
            }
            return length;
        }

        private void add(int code) {
            if (length >= 0 && length < codes.length) {
                codes[length] = code;
                length++;
            }
        }

        /** How many characters the number holds, 0 if it is none that can be put. */
        private static int amountOf(long characters) {
            int amount = 0;
            while (amount < MOST_AT_ONCE && codeIn(characters, amount) != 0) {
                if (outside(codeIn(characters, amount), LEAST_CODE, MOST_CODE)) {
                    return 0;
                }
                amount++;
            }
            boolean full = amount == MOST_AT_ONCE;
            return full || characters >>> 8 * amount == 0 ? amount : 0;
        }

        private static int codeIn(long characters, int back) {
            return (int) (characters >>> 8 * back) & 255;
        }
    }

    /** Reads the orders of the pad from left to right. It stands still at what can't be read. */
    private static final class Reader {
        // A text that is all one row of values holds no more of them.
        private static final int MOST_NUMBERS = Pad.MOST / 2;

        private final Pad pad;
        private final int[] numbers = new int[MOST_NUMBERS];
        private int amount;
        private int kind;
        private int at;

        Reader(Pad pad) {
            this.pad = pad;
        }

        int kind() {
            return kind;
        }

        int numbers() {
            return amount;
        }

        int number(int place) {
            return place >= 0 && place < numbers.length ? numbers[place] : 0;
        }

        void begin() {
            at = 0;
        }

        int firstFault() {
            begin();
            for (int order = 0; order < Pad.MOST; order++) {
                if (!readOrder()) {
                    return at;
                }
                if (at == pad.length()) {
                    return NONE;
                }
                if (!skip(';')) {
                    return at;
                }
            }
            return at;
        }

        boolean readOrder() {
            amount = 0;
            kind = pad.codeAt(at);
            switch (kind) {
                case '+':
                    return skip('+') && readValues();
                case 'r':
                    return skip('r') && readNumber() && skip('/') && readNumber() && skip('@') && readNumber()
                            && skip('_') && readNumber() && skip(':') && readNumber() && skip('*') && readNumber();
                case 'm':
                    return skip('m') && readNumber();
                case 'f':
                    return skip('f') && readNumber() && skip('.') && readNumber() && skip('=') && readValue();
                default:
                    return false;
            }
        }

        boolean skip(char sign) {
            if (pad.codeAt(at) != sign) {
                return false;
            }
            at++;
            return true;
        }

        private boolean readValues() {
            boolean right = readValue();
            for (int more = 1; more < MOST_NUMBERS && right && skip(','); more++) {
                right = readValue();
            }
            return right;
        }

        private boolean readValue() {
            int sign = skip('-') ? -1 : 1;
            if (!isDigit()) {
                return false;
            }
            note(sign * readDigit());
            return true;
        }

        /** A 0 stands alone, and two digits are the most; what comes behind them is another's matter. */
        private boolean readNumber() {
            if (!isDigit()) {
                return false;
            }
            int value = readDigit();
            if (value > 0 && isDigit()) {
                value = 10 * value + readDigit();
            }
            note(value);
            return true;
        }

        private boolean isDigit() {
            return !outside(pad.codeAt(at), '0', '9');
        }

        private int readDigit() {
            int digit = pad.codeAt(at) - '0';
            at++;
            return digit;
        }

        private void note(int value) {
            if (amount >= 0 && amount < numbers.length) {
                numbers[amount] = value;
                amount++;
            }
        }
    }
}
