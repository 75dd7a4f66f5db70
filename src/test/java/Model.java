import java.util.ArrayDeque;
import java.util.ArrayList;
import java.util.Arrays;
import java.util.Collections;
import java.util.List;

/** A second applicator, written from the document apart from the first, with the Java library and without thrift. */
final class Model {
    private static final int[] LEAST = {1, 0, 10, 1, 1, 0, 0, 1};
    private static final int[] GREATEST = {30, 50, 400, 1000, 1000, 100, 8, 9};

    private final StringBuilder text = new StringBuilder();
    private final State[] slots = new State[2];
    private State s = new State();

    /** What a slot holds. */
    private static final class State {
        final List<int[]> web = new ArrayList<>();
        final List<Integer> ring = new ArrayList<>(Collections.nCopies(4, -1));
        int[] settings = {3, 5, 150, 400, 100, 10, 2, 3};
        int[] latest = {-1, -1, -1, -1, -1, -1};
        /** The numbers of count(6) to count(14) at their places, and those of count(24) to count(31). */
        int[] counts = new int[32];
        float pitch = 50.0f;
        int speed;

        State copy() {
            State c = new State();
            c.web.addAll(web);
            c.ring.clear();
            c.ring.addAll(ring);
            c.settings = settings.clone();
            c.latest = latest.clone();
            c.counts = counts.clone();
            c.pitch = pitch;
            c.speed = speed;
            return c;
        }

        void cycle(int v) {
            int nearest = settings[3];
            for (int number = Math.min(settings[3], speed + settings[4]); number >= 0 && number >= speed - settings[4];
                    number--) {
                if (Math.abs(number - v) <= Math.abs(nearest - v) || nearest > speed + settings[4]) {
                    nearest = number;
                }
            }
            speed = nearest;
            int travel = 0;
            int[] ofKind = new int[4];
            int taken = 0;
            boolean marked = false;
            boolean lost = false;
            while (!marked && !lost && !web.isEmpty()) {
                int[] item = web.remove(0);
                taken++;
                travel += item[1];
                ofKind[item[0]]++;
                marked = item[0] == 1 && item[1] >= settings[0] && travel >= pitch - settings[1];
                lost = !marked && travel > settings[2];
            }
            boolean late = marked && travel > pitch + settings[1];
            boolean[] applies = {!marked && !lost, lost, ofKind[3] > 0, ofKind[0] == 0, ofKind[0] >= 2, late,
                Math.abs(speed - v) > settings[5], true};
            int reason = 1;
            while (!applies[reason - 1]) {
                reason++;
            }
            reason = reason % 8;
            latest = new int[] {travel, ofKind[0], reason, speed, taken, marked ? 1 : lost ? 2 : 3};
            counts[6]++;
            counts[24 + reason]++;
            counts[reason == 0 ? 9 : 10] += ofKind[0];
            counts[11] += ofKind[3] > 0 ? 1 : 0;
            counts[12] += late ? 1 : 0;
            if (reason == 0) {
                pitch = pitch + (travel - pitch) * (settings[6] / 8.0f);
            }
            counts[13] = List.of(1, 2, 4, 6).contains(reason) ? counts[13] + 1 : 0;
            if (counts[13] >= settings[7]) {
                counts[14] = 1;
            }
            ring.add(0, reason);
            gate(ring.remove(ring.size() - 1));
        }

        void gate(int reason) {
            if (reason >= 0) {
                counts[reason == 0 ? 7 : 8]++;
            }
        }
    }

    /** The call of a name with its arguments. */
    long call(String name, int a, int b, int c) {
        switch (name) {
            case "type": return type(a);
            case "clear": return clear();
            case "load": return load();
            case "unload": return unload();
            case "item": return item(a, b);
            case "set": return set(a, b);
            case "setPitch": return setPitch(a);
            case "setRing": return setRing(a);
            case "run": return run(a, b);
            case "clearFaults": return clearFaults();
            case "latest": return a < 0 || a > 5 ? -2 : s.latest[a];
            case "station": return a < 0 || a >= s.ring.size() ? -2 : s.ring.get(a);
            case "pitch": return Float.floatToIntBits(s.pitch);
            case "foretell": return foretell(a, b, c);
            case "best": return best(a, b, c);
            case "save": return save(a);
            case "restore": return restore(a);
            case "count": return count(a);
            default: return digest();
        }
    }

    private int type(int letter) {
        if (letter < 0 || letter > 127) {
            return -2;
        }
        return text.length() == 80 ? -4 : text.append((char) letter).length();
    }

    private int clear() {
        int length = text.length();
        text.setLength(0);
        return length;
    }

    private int load() {
        List<int[]> items = new ArrayList<>();
        int fault = read(text.toString(), items);
        if (fault >= 0) {
            return -2000 - fault;
        }
        if (s.web.size() + items.size() > 80) {
            return -4;
        }
        s.web.addAll(items);
        return s.web.size();
    }

    /** Reads byte by byte; each byte moves on from one state to another, or is the fault. */
    static int read(String text, List<int[]> items) {
        ArrayDeque<List<int[]>> outer = new ArrayDeque<>();
        ArrayDeque<Integer> outerTimes = new ArrayDeque<>();
        List<int[]> here = new ArrayList<>();
        String state = "part";
        int times = 1;
        int kind = 0;
        int number = 0;
        int first = 0;
        for (int i = 0; i <= text.length(); i++) {
            char c = i == text.length() ? '$' : text.charAt(i);
            boolean digit = c >= '0' && c <= '9';
            if (state.startsWith("times") && state.length() == 6 || state.startsWith("length")) {
                if (digit && state.endsWith("1")) {
                    number = number * 10 + c - '0';
                    state = state.replace('1', '2');
                    continue;
                }
                if (number == 0 || state.startsWith("length") && kind % 2 == 1 && number > 30) {
                    return first;
                }
                if (digit) {
                    return i;
                }
                if (state.startsWith("length")) {
                    addTimes(here, List.of(new int[] {kind, number}), times);
                    times = 1;
                    state = "part";
                } else {
                    times = number;
                    state = "times";
                }
            }
            if (c == ' ') {
                continue;
            }
            if (c == '$') {
                if (state.equals("part") && outer.isEmpty()) {
                    items.addAll(here);
                    return -1;
                }
                return i;
            }
            int letter = "lgbs".indexOf(c);
            if (state.equals("letter") && digit || state.equals("part") && digit) {
                state = state.equals("letter") ? "length1" : "times1";
                number = c - '0';
                first = i;
            } else if (state.equals("times") && c == '*') {
                state = "star";
            } else if ((state.equals("part") || state.equals("star")) && letter >= 0) {
                kind = letter;
                state = "letter";
            } else if ((state.equals("part") || state.equals("star")) && c == '(' && outer.size() < 3) {
                outer.push(here);
                outerTimes.push(times);
                here = new ArrayList<>();
                times = 1;
                state = "part";
            } else if (state.equals("part") && c == ')' && !outer.isEmpty()) {
                List<int[]> inside = here;
                here = outer.pop();
                addTimes(here, inside, outerTimes.pop());
            } else {
                return i;
            }
        }
        throw new IllegalStateException(text);
    }

    private static void addTimes(List<int[]> to, List<int[]> what, int times) {
        for (int i = 0; i < times && to.size() <= 80; i++) {
            to.addAll(what);
        }
    }

    private int unload() {
        int items = s.web.size();
        s.web.clear();
        return items;
    }

    private int item(int i, int what) {
        if (i < 0 || what < 0 || what > 2) {
            return -2;
        }
        if (i >= s.web.size()) {
            return -1;
        }
        return what < 2 ? s.web.get(i)[what] : s.web.subList(0, i).stream().mapToInt(item -> item[1]).sum();
    }

    private int set(int what, int value) {
        if (what < 0 || what > 7 || value < LEAST[what] || value > GREATEST[what]) {
            return -2;
        }
        int before = s.settings[what];
        s.settings[what] = value;
        return before;
    }

    private int setPitch(int tenths) {
        if (tenths < 10 || tenths > 2000) {
            return -2;
        }
        int before = Float.floatToIntBits(s.pitch);
        s.pitch = tenths / 10.0f;
        return before;
    }

    private int setRing(int stations) {
        if (stations < 1 || stations > 10) {
            return -2;
        }
        int products = count(5);
        s.ring.forEach(s::gate);
        s.ring.clear();
        s.ring.addAll(Collections.nCopies(stations, -1));
        return products;
    }

    private int run(int products, int speed) {
        if (isWrong(products, speed)) {
            return -2;
        }
        if (s.counts[14] == 1) {
            return -3;
        }
        int before = s.counts[6];
        while (s.counts[6] < before + products && s.counts[14] == 0) {
            s.cycle(speed);
        }
        return s.counts[6] - before;
    }

    private static boolean isWrong(int products, int speed) {
        return products < 1 || products > 100 || speed < 0 || speed > 1000;
    }

    private int clearFaults() {
        int before = s.counts[13];
        s.counts[13] = 0;
        s.counts[14] = 0;
        return before;
    }

    private int foretell(int products, int speed, int what) {
        if (isWrong(products, speed) || what < 0 || what > 3) {
            return -2;
        }
        State trial = s.copy();
        int stop = -1;
        for (int i = 1; i <= products; i++) {
            trial.cycle(speed);
            if (stop < 0 && trial.counts[13] >= trial.settings[7]) {
                stop = i;
            }
        }
        int good = trial.counts[24] - s.counts[24];
        return new int[] {good, trial.counts[10] - s.counts[10], trial.web.size(), stop}[what];
    }

    private int best(int what, int products, int speed) {
        if (!List.of(0, 1, 5).contains(what) || isWrong(products, speed)) {
            return -2;
        }
        int before = s.settings[what];
        int best = 0;
        int most = -1;
        for (int value = GREATEST[what]; value >= LEAST[what]; value--) {
            s.settings[what] = value;
            int good = foretell(products, speed, 0);
            if (good >= most) {
                most = good;
                best = value;
            }
        }
        s.settings[what] = before;
        return best;
    }

    private int save(int slot) {
        if (slot != 0 && slot != 1) {
            return -2;
        }
        slots[slot] = s.copy();
        return s.web.size();
    }

    private int restore(int slot) {
        if (slot != 0 && slot != 1) {
            return -2;
        }
        if (slots[slot] == null) {
            return -3;
        }
        s = slots[slot].copy();
        return s.web.size();
    }

    private int count(int what) {
        if (what < 0 || what > 31) {
            return -2;
        }
        switch (what) {
            case 0: return s.web.size();
            case 1: return (int) s.web.stream().filter(item -> item[0] == 0).count();
            case 2: return s.web.stream().mapToInt(item -> item[1]).sum();
            case 3: return s.speed;
            case 4: return s.ring.size();
            case 5: return (int) s.ring.stream().filter(reason -> reason >= 0).count();
            case 23: return text.length();
            default: return what >= 15 && what <= 22 ? s.settings[what - 15] : s.counts[what];
        }
    }

    private long digest() {
        List<Integer> numbers = new ArrayList<>();
        for (int what = 0; what < 32; what++) {
            numbers.add(count(what));
        }
        for (int i = 0; i < s.web.size(); i++) {
            numbers.addAll(List.of(item(i, 0), item(i, 1), item(i, 2)));
        }
        numbers.add(Float.floatToIntBits(s.pitch));
        numbers.addAll(s.ring);
        Arrays.stream(s.latest).forEach(numbers::add);
        for (int what = 0; what < 4; what++) {
            numbers.add(foretell(20, 300, what));
        }
        text.chars().forEach(numbers::add);
        long hash = 743;
        for (int number : numbers) {
            hash = hash * 31 + number;
        }
        return hash;
    }
}
