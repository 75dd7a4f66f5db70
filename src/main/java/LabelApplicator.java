/** A label applicator, as DOC.md in shared describes it. The numbers of its face are the document's. */
public final class LabelApplicator {

    public static final int NONE = -1, BAD = -2, STATE = -3, FULL = -4;

    private static final int TEXT_FAULT = -2000;
    private static final int MOST_BYTES = 80, MOST_ITEMS = 80, MOST_STATIONS = 10;
    private static final int MOST_PRODUCTS = 100, MOST_SPEED = 1000;
    private static final int NUMBERS = 32, TEXT_NUMBER = 23;

    private static final int LABEL = 0, GAP = 1, BLANK = 2, SPLICE = 3;

    private static final int LEAST_GAP = 0, WINDOW = 1, GREATEST_FEED = 2, GREATEST_SPEED = 3;
    private static final int GREATEST_CHANGE = 4, TOLERANCE = 5, GAIN = 6, PATIENCE = 7;

    private static final int NOT_ENDED = 0, MARKED = 1, LOST = 2, EMPTY = 3;

    private static final int GOOD = 0, NO_WEB = 1, NO_MARK = 2, SPLICED = 3, NO_LABEL = 4;
    private static final int MANY_LABELS = 5, TOO_LATE = 6, WRONG_SPEED = 7, REASONS = 8;

    private final Reader reader;
    private final Text text;
    private final Machine now;
    private final Machine trial;
    private final Slot firstSlot;
    private final Slot secondSlot;

    public LabelApplicator() {
        reader = new Reader();
        text = reader.text;
        now = new Machine();
        trial = new Machine();
        firstSlot = new Slot();
        secondSlot = new Slot();
    }

    public int type(int letter) {
        if (!isWithin(letter, 0, 127)) {
            return BAD;
        }
        return text.append(letter) ? text.length : FULL;
    }

    public int clear() {
        int before = text.length;
        text.length = 0;
        return before;
    }

    public int load() {
        reader.read();
        if (reader.fault != NONE) {
            return TEXT_FAULT - reader.fault;
        }
        if (reader.tooMany || now.web.size() + reader.items.size() > MOST_ITEMS) {
            return FULL;
        }
        now.web.appendAll(reader.items);
        return now.web.size();
    }

    public int unload() {
        int before = now.web.size();
        now.web.removeAll();
        return before;
    }

    public int item(int i, int what) {
        if (i < 0 || !isWithin(what, 0, 2)) {
            return BAD;
        }
        if (i >= now.web.size()) {
            return NONE;
        }
        switch (what) {
            case 0: return now.web.kindOf(i);
            case 1: return now.web.lengthOf(i);
            default: return now.web.lengthAhead(i);
        }
    }

    public int set(int what, int value) {
        if (!now.settings.allows(what, value)) {
            return BAD;
        }
        int before = now.settings.value(what);
        now.settings.put(what, value);
        return before;
    }

    public int setPitch(int tenths) {
        if (!isWithin(tenths, 10, 2000)) {
            return BAD;
        }
        int before = bitsOf(now.pitch);
        now.pitch = (float) tenths / 10.0f;
        return before;
    }

    public int setRing(int stations) {
        if (!isWithin(stations, 1, MOST_STATIONS)) {
            return BAD;
        }
        return now.rebuildRing(stations);
    }

    public int run(int products, int speed) {
        if (!canCome(products, speed)) {
            return BAD;
        }
        if (now.stopped) {
            return STATE;
        }
        int came = 0;
        while (came < products && !now.stopped) {
            now.serve(speed);
            came++;
        }
        return came;
    }

    public int clearFaults() {
        int before = now.faults;
        now.faults = 0;
        now.stopped = false;
        return before;
    }

    public int latest(int what) {
        if (!isWithin(what, 0, 5)) {
            return BAD;
        }
        return now.cycle.ending == NOT_ENDED ? NONE : now.cycle.number(what);
    }

    public int station(int station) {
        if (!isWithin(station, 0, now.ring.stations - 1)) {
            return BAD;
        }
        return now.ring.reasonAt(station);
    }

    public int pitch() {
        return bitsOf(now.pitch);
    }

    public int foretell(int products, int speed, int what) {
        if (!canCome(products, speed) || !isWithin(what, 0, 3)) {
            return BAD;
        }
        trial.copyFrom(now);
        int stop = trial.serveAll(products, speed);
        switch (what) {
            case 0: return trial.cameWith(GOOD) - now.cameWith(GOOD);
            case 1: return trial.rejected - now.rejected;
            case 2: return trial.web.size();
            default: return stop;
        }
    }

    public int best(int what, int products, int speed) {
        if (what != LEAST_GAP && what != WINDOW && what != TOLERANCE) {
            return BAD;
        }
        if (!canCome(products, speed)) {
            return BAD;
        }
        int best = now.settings.least(what);
        int most = -1;
        for (int value = best; value <= now.settings.greatest(what); value++) {
            int good = goodWith(what, value, products, speed);
            if (good > most) {
                most = good;
                best = value;
            }
        }
        return best;
    }

    public int save(int slot) {
        if (!isWithin(slot, 0, 1)) {
            return BAD;
        }
        slotOf(slot).machine.copyFrom(now);
        slotOf(slot).filled = true;
        return now.web.size();
    }

    public int restore(int slot) {
        if (!isWithin(slot, 0, 1)) {
            return BAD;
        }
        if (!slotOf(slot).filled) {
            return STATE;
        }
        now.copyFrom(slotOf(slot).machine);
        return now.web.size();
    }

    public int count(int what) {
        if (!isWithin(what, 0, NUMBERS - 1)) {
            return BAD;
        }
        return what == TEXT_NUMBER ? text.length : now.number(what);
    }

    public long digest() {
        long hash = 743;
        for (int what = 0; what < NUMBERS; what++) {
            hash = 31 * hash + count(what);
        }
        for (int i = 0; i < now.web.size(); i++) {
            for (int what = 0; what <= 2; what++) {
                hash = 31 * hash + item(i, what);
            }
        }
        hash = 31 * hash + pitch();
        for (int i = 0; i < now.ring.stations; i++) {
            hash = 31 * hash + station(i);
        }
        for (int what = 0; what <= 5; what++) {
            hash = 31 * hash + latest(what);
        }
        for (int what = 0; what <= 3; what++) {
            hash = 31 * hash + foretell(20, 300, what);
        }
        for (int i = 0; i < text.length; i++) {
            hash = 31 * hash + text.byteAt(i);
        }
        return hash;
    }

    private static boolean isWithin(int value, int least, int greatest) {
        return value >= least && value <= greatest;
    }

    private static boolean canCome(int products, int speed) {
        return isWithin(products, 1, MOST_PRODUCTS) && isWithin(speed, 0, MOST_SPEED);
    }

    /**
     * The bits of a float of 1 or more: LANGUAGE.md lists no Float.floatToIntBits().
     * The pitch is never less than 1: it starts so, and moves towards travels of at least 2.
     */
    private static int bitsOf(float value) {
        float part = value;
        int exponent = 127;
        while (part >= 2.0f && exponent < 254) {
            part = part / 2.0f;
            exponent++;
        }
        int hiddenBit = 1 << 23;
        int mantissa = (int) (part * (float) hiddenBit) - hiddenBit;
        return (exponent << 23) + mantissa;
    }

    private Slot slotOf(int slot) {
        return slot == 0 ? firstSlot : secondSlot;
    }

    private int goodWith(int what, int value, int products, int speed) {
        trial.copyFrom(now);
        trial.settings.put(what, value);
        trial.serveAll(products, speed);
        return trial.cameWith(GOOD) - now.cameWith(GOOD);
    }

    /** The text that was typed. */
    private static final class Text {
        final byte[] bytes;
        int length;

        Text() {
            bytes = new byte[MOST_BYTES];
        }

        boolean append(int letter) {
            if (length < 0 || length >= bytes.length) {
                return false;
            }
            bytes[length] = (byte) letter;
            length++;
            return true;
        }

        /** The byte, or NONE behind the end, so that the end is a byte that can stand nowhere. */
        int byteAt(int i) {
            return i >= 0 && i < length && i < bytes.length ? bytes[i] : NONE;
        }
    }

    /** At most 80 items, one behind the other; those ahead of the front have been taken. */
    private static final class Items {
        final int[] kinds;
        final int[] lengths;
        int front;
        int end;

        Items() {
            kinds = new int[MOST_ITEMS];
            lengths = new int[MOST_ITEMS];
        }

        int size() {
            return end - front;
        }

        int kindOf(int i) {
            int place = front + i;
            return place >= 0 && place < kinds.length ? kinds[place] : NONE;
        }

        int lengthOf(int i) {
            int place = front + i;
            return place >= 0 && place < lengths.length ? lengths[place] : 0;
        }

        int lengthAhead(int i) {
            int sum = 0;
            for (int ahead = 0; ahead < i; ahead++) {
                sum += lengthOf(ahead);
            }
            return sum;
        }

        int labels() {
            int labels = 0;
            for (int i = 0; i < size(); i++) {
                if (kindOf(i) == LABEL) {
                    labels++;
                }
            }
            return labels;
        }

        void removeAll() {
            front = 0;
            end = 0;
        }

        void removeFirst(int items) {
            front += items;
        }

        boolean append(int kind, int length) {
            if (end < 0 || end >= kinds.length || end >= lengths.length) {
                return false;
            }
            kinds[end] = kind;
            lengths[end] = length;
            end++;
            return true;
        }

        void appendAll(Items other) {
            closeUp();
            for (int i = 0; i < other.size(); i++) {
                append(other.kindOf(i), other.lengthOf(i));
            }
        }

        void copyFrom(Items other) {
            removeAll();
            appendAll(other);
        }

        /** Gives the room of the items that were taken back to those that come. */
        private void closeUp() {
            int taken = front;
            int items = size();
            removeAll();
            for (int i = 0; i < items; i++) {
                append(kindOf(taken + i), lengthOf(taken + i));
            }
        }
    }

    /** Has the text, and reads items from it; if there is no fault then, and not too many items, they are in items. */
    private static final class Reader {
        private static final int DEEPEST = 3, TWO_DIGITS = 99, LONGEST_GAP = 30;

        final Text text;
        final Items items;
        boolean tooMany;
        int fault;

        private final int[] firstInside;
        private final int[] timesInside;
        private int depth;
        private int at;

        Reader() {
            text = new Text();
            items = new Items();
            firstInside = new int[DEEPEST];
            timesInside = new int[DEEPEST];
        }

        void read() {
            items.removeAll();
            tooMany = false;
            fault = NONE;
            depth = 0;
            at = 0;
            skipBlanks();
            // A round takes a byte at least, or finds a fault.
            for (int i = 0; i < MOST_BYTES && at < text.length && fault == NONE; i++) {
                if (text.byteAt(at) == ')') {
                    closeParenthesis();
                } else {
                    readPart();
                }
                skipBlanks();
            }
            if (fault == NONE && depth > 0) {
                fault = text.length;
            }
        }

        private void readPart() {
            int times = digitAt(at) == NONE ? 1 : readTimes();
            if (fault != NONE) {
                return;
            }
            if (text.byteAt(at) == '(') {
                openParenthesis(times);
            } else {
                readItem(times);
            }
        }

        private int readTimes() {
            int times = readNumber(TWO_DIGITS);
            skipBlanks();
            if (fault == NONE && text.byteAt(at) != '*') {
                fault = at;
            }
            at++;
            skipBlanks();
            return times;
        }

        private void readItem(int times) {
            int kind = kindNamed(text.byteAt(at));
            if (kind == NONE) {
                fault = at;
                return;
            }
            at++;
            skipBlanks();
            int length = readNumber(kind == GAP || kind == SPLICE ? LONGEST_GAP : TWO_DIGITS);
            if (fault != NONE) {
                return;
            }
            int first = items.size();
            if (!items.append(kind, length)) {
                tooMany = true;
            }
            repeat(first, times);
        }

        private void openParenthesis(int times) {
            if (depth < 0 || depth >= firstInside.length || depth >= timesInside.length) {
                fault = at;
                return;
            }
            firstInside[depth] = items.size();
            timesInside[depth] = times;
            depth++;
            at++;
        }

        private void closeParenthesis() {
            int open = depth - 1;
            if (open < 0 || open >= firstInside.length || open >= timesInside.length) {
                fault = at;
                return;
            }
            depth = open;
            at++;
            repeat(firstInside[open], timesInside[open]);
        }

        /** Makes the items from the first one on stand as often as told. */
        private void repeat(int first, int times) {
            int once = items.size() - first;
            if (first + once * times > MOST_ITEMS) {
                tooMany = true;
                return;
            }
            for (int i = 0; i < once * (times - 1); i++) {
                items.append(items.kindOf(first + i), items.lengthOf(first + i));
            }
        }

        private int readNumber(int greatest) {
            int first = at;
            int number = digitAt(at);
            if (number == NONE) {
                fault = at;
                return 0;
            }
            at++;
            if (digitAt(at) != NONE) {
                number = 10 * number + digitAt(at);
                at++;
            }
            if (number == 0 || number > greatest) {
                fault = first;
            } else if (digitAt(at) != NONE) {
                fault = at;
            }
            return number;
        }

        private int digitAt(int i) {
            int letter = text.byteAt(i);
            return isWithin(letter, '0', '9') ? letter - '0' : NONE;
        }

        private void skipBlanks() {
            while (at < text.length && text.byteAt(at) == ' ') {
                at++;
            }
        }

        private static int kindNamed(int letter) {
            switch (letter) {
                case 'l': return LABEL;
                case 'g': return GAP;
                case 'b': return BLANK;
                case 's': return SPLICE;
                default: return NONE;
            }
        }
    }

    /** The settings, by their numbers. */
    private static final class Settings {
        private static final int[] LEAST = {1, 0, 10, 1, 1, 0, 0, 1};
        private static final int[] GREATEST = {30, 50, 400, 1000, 1000, 100, 8, 9};

        final int[] values;

        Settings() {
            values = new int[] {3, 5, 150, 400, 100, 10, 2, 3};
        }

        boolean allows(int what, int value) {
            return isWithin(what, LEAST_GAP, PATIENCE) && isWithin(value, least(what), greatest(what));
        }

        int least(int what) {
            return what >= 0 && what < LEAST.length ? LEAST[what] : 0;
        }

        int greatest(int what) {
            return what >= 0 && what < GREATEST.length ? GREATEST[what] : 0;
        }

        int value(int what) {
            return what >= 0 && what < values.length ? values[what] : 0;
        }

        void put(int what, int value) {
            if (what >= 0 && what < values.length) {
                values[what] = value;
            }
        }

        void copyFrom(Settings other) {
            for (int what = 0; what < values.length; what++) {
                values[what] = other.value(what);
            }
        }
    }

    /** The stations behind the applicator, each with the reason of its product, or NONE. */
    private static final class Ring {
        final int[] reasons;
        int stations;

        Ring() {
            reasons = new int[MOST_STATIONS];
            makeEmpty(4);
        }

        void makeEmpty(int newStations) {
            stations = newStations;
            for (int i = 0; i < reasons.length; i++) {
                reasons[i] = NONE;
            }
        }

        int reasonAt(int station) {
            return station >= 0 && station < reasons.length ? reasons[station] : NONE;
        }

        int products() {
            int products = 0;
            for (int i = 0; i < stations; i++) {
                if (reasonAt(i) != NONE) {
                    products++;
                }
            }
            return products;
        }

        /** Moves all products on, and puts the new one at station 0; answers what left the last one. */
        int moveOn(int newReason) {
            int coming = newReason;
            for (int i = 0; i < stations && i < reasons.length; i++) {
                int going = reasons[i];
                reasons[i] = coming;
                coming = going;
            }
            return coming;
        }

        void copyFrom(Ring other) {
            stations = other.stations;
            for (int i = 0; i < reasons.length; i++) {
                reasons[i] = other.reasonAt(i);
            }
        }
    }

    /** The numbers of one cycle. */
    private static final class Cycle {
        int travel;
        int labels;
        int splices;
        int taken;
        int ending;
        int speed;
        int reason;
        boolean late;

        void begin(int newSpeed) {
            travel = 0;
            labels = 0;
            splices = 0;
            taken = 0;
            ending = NOT_ENDED;
            speed = newSpeed;
        }

        void take(int kind, int length) {
            taken++;
            travel += length;
            if (kind == LABEL) {
                labels++;
            }
            if (kind == SPLICE) {
                splices++;
            }
        }

        int number(int what) {
            switch (what) {
                case 0: return travel;
                case 1: return labels;
                case 2: return reason;
                case 3: return speed;
                case 4: return taken;
                default: return ending;
            }
        }

        void copyFrom(Cycle other) {
            travel = other.travel;
            labels = other.labels;
            splices = other.splices;
            taken = other.taken;
            ending = other.ending;
            speed = other.speed;
            reason = other.reason;
            late = other.late;
        }
    }

    /** All that is saved in a slot, and all that a trial needs. */
    private static final class Machine {
        final Items web;
        final Settings settings;
        final Ring ring;
        final Cycle cycle;
        final int[] cameByReason;
        float pitch;
        int speed;
        int faults;
        boolean stopped;
        int came;
        int delivered;
        int diverted;
        int applied;
        int rejected;
        int splicedCycles;
        int lateCycles;

        Machine() {
            web = new Items();
            settings = new Settings();
            ring = new Ring();
            cycle = new Cycle();
            cameByReason = new int[REASONS];
            pitch = 50.0f;
        }

        void copyFrom(Machine other) {
            web.copyFrom(other.web);
            settings.copyFrom(other.settings);
            ring.copyFrom(other.ring);
            cycle.copyFrom(other.cycle);
            for (int reason = 0; reason < cameByReason.length; reason++) {
                cameByReason[reason] = other.cameWith(reason);
            }
            pitch = other.pitch;
            speed = other.speed;
            faults = other.faults;
            stopped = other.stopped;
            came = other.came;
            delivered = other.delivered;
            diverted = other.diverted;
            applied = other.applied;
            rejected = other.rejected;
            splicedCycles = other.splicedCycles;
            lateCycles = other.lateCycles;
        }

        int cameWith(int reason) {
            return reason >= 0 && reason < cameByReason.length ? cameByReason[reason] : 0;
        }

        /** A number as the document's count() names them, but for that of the text. */
        int number(int what) {
            if (what >= 24) {
                return cameWith(what - 24);
            }
            if (what >= 15) {
                return settings.value(what - 15);
            }
            switch (what) {
                case 0: return web.size();
                case 1: return web.labels();
                case 2: return web.lengthAhead(web.size());
                case 3: return speed;
                case 4: return ring.stations;
                case 5: return ring.products();
                case 6: return came;
                case 7: return delivered;
                case 8: return diverted;
                case 9: return applied;
                case 10: return rejected;
                case 11: return splicedCycles;
                case 12: return lateCycles;
                case 13: return faults;
                default: return stopped ? 1 : 0;
            }
        }

        int rebuildRing(int stations) {
            int products = ring.products();
            for (int i = ring.stations - 1; i >= 0; i--) {
                passGate(ring.reasonAt(i));
            }
            ring.makeEmpty(stations);
            return products;
        }

        /** Serves products whether it stops or not; answers behind which of them it first would stop, or NONE. */
        int serveAll(int products, int conveyor) {
            int stop = NONE;
            for (int product = 1; product <= products; product++) {
                serve(conveyor);
                if (stop == NONE && hasTooManyFaults()) {
                    stop = product;
                }
            }
            return stop;
        }

        void serve(int conveyor) {
            speed = speedTowards(conveyor);
            cycle.begin(speed);
            feed();
            cycle.late = cycle.ending == MARKED && (float) cycle.travel > pitch + (float) settings.value(WINDOW);
            cycle.reason = reasonAt(conveyor);
            countCycle();
            if (cycle.reason == GOOD) {
                learnPitch();
            }
            passGate(ring.moveOn(cycle.reason));
            faults = isFault(cycle.reason) ? faults + 1 : 0;
            if (hasTooManyFaults()) {
                stopped = true;
            }
        }

        private int speedTowards(int conveyor) {
            int change = settings.value(GREATEST_CHANGE);
            int greatest = settings.value(GREATEST_SPEED);
            int least = Math.max(speed - change, 0);
            int most = Math.min(speed + change, greatest);
            if (least > most) {
                return greatest;
            }
            return Math.max(least, Math.min(most, conveyor));
        }

        private void feed() {
            int items = web.size();
            for (int i = 0; i < items && cycle.ending == NOT_ENDED; i++) {
                cycle.take(web.kindOf(i), web.lengthOf(i));
                cycle.ending = endingBehind(web.kindOf(i), web.lengthOf(i));
            }
            if (cycle.ending == NOT_ENDED) {
                cycle.ending = EMPTY;
            }
            web.removeFirst(cycle.taken);
        }

        private int endingBehind(int kind, int length) {
            boolean canMark = kind == GAP && length >= settings.value(LEAST_GAP);
            if (canMark && (float) cycle.travel >= pitch - (float) settings.value(WINDOW)) {
                return MARKED;
            }
            return cycle.travel > settings.value(GREATEST_FEED) ? LOST : NOT_ENDED;
        }

        private int reasonAt(int conveyor) {
            if (cycle.ending == EMPTY) {
                return NO_WEB;
            }
            if (cycle.ending == LOST) {
                return NO_MARK;
            }
            if (cycle.splices > 0) {
                return SPLICED;
            }
            if (cycle.labels == 0) {
                return NO_LABEL;
            }
            if (cycle.labels > 1) {
                return MANY_LABELS;
            }
            if (cycle.late) {
                return TOO_LATE;
            }
            int difference = Math.abs(speed - conveyor);
            return difference > settings.value(TOLERANCE) ? WRONG_SPEED : GOOD;
        }

        private void countCycle() {
            int reason = cycle.reason;
            came++;
            if (reason >= 0 && reason < cameByReason.length) {
                cameByReason[reason]++;
            }
            if (reason == GOOD) {
                applied += cycle.labels;
            } else {
                rejected += cycle.labels;
            }
            if (cycle.splices > 0) {
                splicedCycles++;
            }
            if (cycle.late) {
                lateCycles++;
            }
        }

        private void learnPitch() {
            float share = (float) settings.value(GAIN) / 8.0f;
            pitch = pitch + ((float) cycle.travel - pitch) * share;
        }

        private void passGate(int reason) {
            if (reason == GOOD) {
                delivered++;
            } else if (reason != NONE) {
                diverted++;
            }
        }

        private boolean hasTooManyFaults() {
            return faults >= settings.value(PATIENCE);
        }

        private static boolean isFault(int reason) {
            return reason == NO_WEB || reason == NO_MARK || reason == NO_LABEL || reason == TOO_LATE;
        }
    }

    /** A place where a machine is saved. */
    private static final class Slot {
        final Machine machine;
        boolean filled;

        Slot() {
            machine = new Machine();
        }
    }
}
