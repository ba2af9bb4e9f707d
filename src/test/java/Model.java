import java.util.ArrayDeque;
import java.util.ArrayList;
import java.util.Deque;
import java.util.List;
import java.util.regex.Matcher;
import java.util.regex.Pattern;

/**
 * The document once more, in the slowest and plainest way: states are copied whole, presses are worked out
 * anew for each step, and texts are matched by an expression. Its answers are what RollerMesh must answer.
 */
final class Model {
    private static final Pattern TEXT = text();

    private static final class Roller {
        final int[] heights;
        int steps;
        int worn;

        Roller(int[] heights) {
            this.heights = heights;
        }

        Roller copy() {
            Roller copy = new Roller(heights.clone());
            copy.steps = steps;
            copy.worn = worn;
            return copy;
        }
    }

    private static final class State {
        final List<Roller> rollers = new ArrayList<>();
        int[] card = {5, 5};
        int[] totals = {0, 0, 0};
        int[] settings = {6, 4, 20};

        State copy() {
            State copy = new State();
            for (Roller roller : rollers) {
                copy.rollers.add(roller.copy());
            }
            copy.card = card.clone();
            copy.totals = totals.clone();
            copy.settings = settings.clone();
            return copy;
        }
    }

    private State now = new State();
    private final Deque<State> history = new ArrayDeque<>();
    private final State[] slots = new State[2];
    private String pad = "";

    private static Pattern text() {
        String number = "(?:0|[1-9][0-9]?)";
        String value = "-?[0-9]";
        String order = "(?:\\+V(?:,V)*|rN/N@N_N:N\\*N|mN|fN\\.N=V)".replace("N", number).replace("V", value);
        return Pattern.compile(order + "(?:;" + order + ")*");
    }

    /** Answers call number {@code call}, in the order of the document's face, with its arguments. */
    long answer(int call, long[] a) {
        State before = now.copy();
        long answer = change(call, (int) a[0], (int) a[1], (int) a[2], (int) a[3], (int) a[4], (int) a[5]);
        boolean isChange = call <= 5 || call == 16 || call == 19;
        if (isChange && answer >= 0) {
            history.addLast(before);
            if (history.size() > 6) {
                history.removeFirst();
            }
        }
        return isChange ? answer : look(call, a);
    }

    private int change(int call, int a, int b, int c, int d, int e, int f) {
        switch (call) {
            case 0:
                return set(a, b);
            case 1:
                return rollerOfOneHeight(a, b);
            case 2:
                return file(a, b, c);
            case 3:
                return melt(a);
            case 4:
                return card(a, b);
            case 5:
                return run(a, b, c, d, e, f);
            case 16:
                return carryOut();
            case 19:
                return restore(a);
            default:
                return 0;
        }
    }

    private long look(int call, long[] a) {
        int[] n = new int[a.length];
        for (int i = 0; i < n.length; i++) {
            n[i] = (int) a[i];
        }
        switch (call) {
            case 6:
                return of(n[0], n[1]);
            case 7:
                return hasTooth(n[0], n[1]) ? heights(n[0])[n[1]] + 9 : -1;
            case 8:
                return count(n[0]);
            case 9:
                return pair(n[0], n[1], n[2], n[3], n[4]);
            case 10:
                return why(n[0], n[1], n[2], n[3], n[4]);
            case 11:
                return pairError(n[0], n[1], n[2], 0) != 0 ? pairError(n[0], n[1], n[2], 0) : leastGap(n[0], n[1], n[2]);
            case 12:
                return bestOffset(n[0], n[1], n[2]);
            case 13:
                return thickest(n[0], n[1], n[2], n[3]);
            case 14:
                return put(a[0]);
            case 15:
                return wipe();
            case 17:
                return fault();
            case 18:
                return save(n[0]);
            default:
                return undo();
        }
    }

    private static boolean in(int value, int least, int most) {
        return least <= value && value <= most;
    }

    private boolean has(int roller) {
        return in(roller, 0, now.rollers.size() - 1);
    }

    private boolean hasTooth(int roller, int tooth) {
        return has(roller) && in(tooth, 0, heights(roller).length - 1);
    }

    private int[] heights(int roller) {
        return now.rollers.get(roller).heights;
    }

    private int set(int setting, int value) {
        if (!in(setting, 0, 2) || !in(value, setting == 2 ? 1 : 0, setting == 2 ? 99 : 30)) {
            return -2;
        }
        int previous = now.settings[setting];
        now.settings[setting] = value;
        return previous;
    }

    private int rollerOfOneHeight(int teeth, int height) {
        if (!in(teeth, 2, 24) || !in(height, -9, 9)) {
            return -2;
        }
        int[] heights = new int[teeth];
        java.util.Arrays.fill(heights, height);
        return roller(heights);
    }

    private int roller(int[] heights) {
        if (!in(heights.length, 2, 24)) {
            return -2;
        }
        if (now.rollers.size() == 8) {
            return -4;
        }
        now.rollers.add(new Roller(heights));
        return now.rollers.size() - 1;
    }

    private int file(int roller, int tooth, int height) {
        if (!hasTooth(roller, tooth)) {
            return -1;
        }
        if (!in(height, -9, 9)) {
            return -2;
        }
        int previous = heights(roller)[tooth] + 9;
        heights(roller)[tooth] = height;
        return previous;
    }

    private int melt(int roller) {
        if (!has(roller)) {
            return -1;
        }
        now.rollers.remove(roller);
        return now.rollers.size();
    }

    private int card(int thickness, int strength) {
        if (!in(thickness, 1, 30) || !in(strength, 0, 30)) {
            return -2;
        }
        int previous = now.card[0];
        now.card = new int[] {thickness, strength};
        return previous;
    }

    private int pairError(int upper, int lower, int offset, int gap) {
        if (!has(upper) || !has(lower)) {
            return -1;
        }
        return upper == lower || !in(offset, 0, 23) || !in(gap, 0, 30) ? -2 : 0;
    }

    private int turn(int upper, int lower) {
        int steps = 1;
        while (steps % heights(upper).length != 0 || steps % heights(lower).length != 0) {
            steps++;
        }
        return steps;
    }

    private int press(int upper, int lower, int offset, int gap, int step) {
        int[] up = heights(upper);
        int[] low = heights(lower);
        return gap - up[step % up.length] - low[(step + offset) % low.length];
    }

    private int reason(int upper, int lower, int offset, int gap, int step) {
        int ahead = (step == 0 ? turn(upper, lower) : step) - 1;
        int press = press(upper, lower, offset, gap, step);
        if (press < 1) {
            return 1;
        }
        return Math.abs(press - press(upper, lower, offset, gap, ahead)) > now.settings[0] ? 2 : 0;
    }

    private int why(int upper, int lower, int offset, int gap, int what) {
        int error = pairError(upper, lower, offset, gap);
        if (error != 0 || !in(what, 0, 1)) {
            return error != 0 ? error : -2;
        }
        int turn = turn(upper, lower);
        for (int step = 0; step < turn; step++) {
            int reason = reason(upper, lower, offset, gap, step);
            if (reason != 0) {
                return what == 0 ? reason : step;
            }
        }
        return what == 0 ? 0 : -6;
    }

    private boolean meshes(int upper, int lower, int offset, int gap) {
        return why(upper, lower, offset, gap, 0) == 0;
    }

    private int pair(int upper, int lower, int offset, int gap, int what) {
        int error = pairError(upper, lower, offset, gap);
        if (error != 0 || !in(what, 0, 3)) {
            return error != 0 ? error : -2;
        }
        int turn = turn(upper, lower);
        if (what == 0) {
            return turn;
        }
        List<Integer> presses = new ArrayList<>();
        for (int step = 0; step < turn; step++) {
            presses.add(press(upper, lower, offset, gap, step));
        }
        presses.sort(null);
        if (what == 3) {
            return meshes(upper, lower, offset, gap) ? 1 : 0;
        }
        return 100 + presses.get(what == 1 ? 0 : presses.size() - 1);
    }

    private int leastGap(int upper, int lower, int offset) {
        for (int gap = 0; gap <= 30; gap++) {
            if (meshes(upper, lower, offset, gap)) {
                return gap;
            }
        }
        return -6;
    }

    private int bestOffset(int upper, int lower, int what) {
        int error = pairError(upper, lower, 0, 0);
        if (error != 0 || !in(what, 0, 1)) {
            return error != 0 ? error : -2;
        }
        for (int gap = 0; gap <= 30; gap++) {
            for (int offset = 0; offset <= 23; offset++) {
                if (meshes(upper, lower, offset, gap)) {
                    return what == 0 ? offset : gap;
                }
            }
        }
        return -6;
    }

    /** The steps that a card takes from a step on; below 0 if it tears in the last one of them. */
    private int pass(int[] pair, int from, int steps, int thickness) {
        List<Integer> pressed = new ArrayList<>();
        for (int step = 0; step < steps; step++) {
            pressed.add(Math.max(0, thickness - press(pair[0], pair[1], pair[2], pair[3], from + step)));
            int pull = step == 0 ? 0 : Math.abs(pressed.get(step) - pressed.get(step - 1));
            if (pressed.get(step) > now.card[1] || pull > now.settings[1]) {
                return -step - 1;
            }
        }
        return steps;
    }

    private int thickest(int upper, int lower, int offset, int gap) {
        int error = pairError(upper, lower, offset, gap);
        if (error != 0) {
            return error;
        }
        int best = -6;
        for (int thickness = 1; thickness <= 30 && meshes(upper, lower, offset, gap); thickness++) {
            if (pass(new int[] {upper, lower, offset, gap}, 0, turn(upper, lower), thickness) > 0) {
                best = thickness;
            }
        }
        return best;
    }

    private int run(int upper, int lower, int offset, int gap, int cards, int steps) {
        int error = pairError(upper, lower, offset, gap);
        if (error != 0) {
            return error;
        }
        if (!in(cards, 1, 99) || !in(steps, 1, 99)) {
            return -2;
        }
        if (!meshes(upper, lower, offset, gap)) {
            return -5;
        }
        int torn = 0;
        int taken = 0;
        for (int card = 0; card < cards; card++) {
            int passed = pass(new int[] {upper, lower, offset, gap}, taken, steps, now.card[0]);
            torn += passed < 0 ? 1 : 0;
            taken += Math.abs(passed);
        }
        now.totals = new int[] {now.totals[0] + cards, now.totals[1] + torn, now.totals[2] + taken};
        wear(now.rollers.get(upper), taken);
        wear(now.rollers.get(lower), taken);
        return torn;
    }

    private void wear(Roller roller, int steps) {
        roller.steps += steps;
        if (roller.steps >= now.settings[2] * roller.heights.length) {
            for (int tooth = 0; tooth < roller.heights.length; tooth++) {
                roller.heights[tooth] -= roller.heights[tooth] > 0 ? 1 : 0;
            }
            roller.steps = 0;
            roller.worn++;
        }
    }

    private int of(int roller, int what) {
        if (!has(roller) || !in(what, 0, 6)) {
            return has(roller) ? -2 : -1;
        }
        int[] sorted = heights(roller).clone();
        java.util.Arrays.sort(sorted);
        int above = 0;
        int below = 0;
        for (int tooth = 0; tooth < sorted.length; tooth++) {
            above += heights(roller)[tooth] > 0 ? 1 << tooth : 0;
            below += heights(roller)[tooth] < 0 ? 1 << tooth : 0;
        }
        Roller asked = now.rollers.get(roller);
        int last = sorted.length - 1;
        return new int[] {sorted.length, above, below, sorted[last] + 9, sorted[0] + 9, asked.steps, asked.worn}[what];
    }

    private int count(int what) {
        int[] all = {now.rollers.size(), now.card[0], now.card[1], now.totals[0], now.totals[1], now.totals[2],
            now.settings[0], now.settings[1], now.settings[2], pad.length(), history.size()};
        return in(what, 0, 10) ? all[what] : -2;
    }

    private int put(long characters) {
        String text = "";
        long rest = characters;
        while ((rest & 255) != 0) {
            char character = (char) (rest & 255);
            if (character < 33 || character > 126) {
                return -2;
            }
            text = character + text;
            rest >>>= 8;
        }
        if (rest != 0 || text.isEmpty()) {
            return -2;
        }
        if (pad.length() + text.length() > 80) {
            return -4;
        }
        pad += text;
        return pad.length();
    }

    private int wipe() {
        int length = pad.length();
        pad = "";
        return length;
    }

    private int fault() {
        for (int length = 1; length <= pad.length(); length++) {
            Matcher matcher = TEXT.matcher(pad.substring(0, length));
            if (!matcher.matches() && !matcher.hitEnd()) {
                return length - 1;
            }
        }
        return TEXT.matcher(pad).matches() ? -6 : pad.length();
    }

    private int carryOut() {
        if (fault() != -6) {
            return -3;
        }
        String[] orders = pad.split(";");
        pad = "";
        int done = 0;
        while (done < orders.length && obey(orders[done]) >= 0) {
            done++;
        }
        return done;
    }

    private int obey(String order) {
        String[] parts = order.substring(1).split("[,/@_:*.=]");
        int[] n = new int[parts.length];
        for (int i = 0; i < n.length; i++) {
            n[i] = Integer.parseInt(parts[i]);
        }
        switch (order.charAt(0)) {
            case '+':
                return roller(n);
            case 'r':
                return run(n[0], n[1], n[2], n[3], n[4], n[5]);
            case 'm':
                return melt(n[0]);
            default:
                return file(n[0], n[1], n[2]);
        }
    }

    private int undo() {
        if (history.isEmpty()) {
            return -5;
        }
        now = history.removeLast();
        return history.size();
    }

    private int save(int slot) {
        if (!in(slot, 0, 1)) {
            return -2;
        }
        slots[slot] = now.copy();
        return now.rollers.size();
    }

    private int restore(int slot) {
        if (!in(slot, 0, 1)) {
            return -2;
        }
        if (slots[slot] == null) {
            return -5;
        }
        now = slots[slot].copy();
        return now.rollers.size();
    }
}
