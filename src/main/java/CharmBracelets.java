/**
 * A workbench for charm bracelets: rings of slots on which charms from a box are hung, and which
 * are rolled, turned by quarters and mirrored.
 */
public final class CharmBracelets {
    /** There is no such bracelet, slot, kind, quarter or entry. */
    public static final int NO_SUCH = -1;
    /** Another argument is out of its range. */
    public static final int BAD_VALUE = -2;
    /** The call is not possible in the current state. */
    public static final int NOT_POSSIBLE = -3;
    /** There is no room for another bracelet, entry or character. */
    public static final int LIMIT = -4;
    /** The buffer does not contain a bracelet. */
    public static final int BAD_TEXT = -5;
    /** There is no such result. */
    public static final int NONE = -6;
    /** A sign of the motif that stands for each kind and for an empty slot. */
    public static final int ANY = 9;

    private static final int EMPTY = 0;
    private static final int KINDS = 5;
    private static final int FULL_BOX = 12;
    private static final int MOST_IN_BOX = 99;
    private static final int MOST_WEIGHT = 50;
    private static final int MOST_BRACELETS = 6;
    private static final int MOST_SLOTS = 16;
    private static final int QUARTERS = 4;
    private static final int TURNS = 0;
    private static final int ROLLS = 1;
    private static final int ROLLS_AND_MIRRORINGS = 2;
    private static final int MOST_SIGNS = 6;
    private static final int MOST_ENTRIES = 10;
    private static final int MOST_CHARACTERS = 60;
    private static final int FIRST_CODE = 33;
    private static final int LAST_CODE = 126;
    private static final int MOST_RECORDED = 5;

    private final State now = new State();
    private final State saved = new State();
    private final State[] recorded = new State[MOST_RECORDED];
    private final Text buffer = new Text();
    // One spare ring serves every call that tries something out, so that no call makes an object.
    private final Ring trial = new Ring();
    private boolean anySaved;
    private int recordedStates;

    public CharmBracelets() {
        for (int i = 0; i < recorded.length; i++) {
            recorded[i] = new State();
        }
    }

    // ---- the box

    public int fill(int kind, int number) {
        if (!isCharm(kind)) {
            return NO_SUCH;
        }
        if (number < 0 || number > MOST_IN_BOX) {
            return BAD_VALUE;
        }
        record();
        int before = now.box[kind];
        now.box[kind] = number;
        return before;
    }

    public int weigh(int kind, int weight) {
        if (!isCharm(kind)) {
            return NO_SUCH;
        }
        if (weight < 1 || weight > MOST_WEIGHT) {
            return BAD_VALUE;
        }
        record();
        int before = now.weights[kind];
        now.weights[kind] = weight;
        return before;
    }

    public int kind(int kind, int part) {
        if (!isCharm(kind)) {
            return NO_SUCH;
        }
        switch (part) {
            case 0:
                return now.box[kind];
            case 1:
                return now.weights[kind];
            case 2:
                return now.charmsHung(kind);
            default:
                return BAD_VALUE;
        }
    }

    // ---- bracelets

    public int make(int slots) {
        if (!isSize(slots)) {
            return BAD_VALUE;
        }
        trial.becomeEmpty(slots);
        return addFromBox(trial);
    }

    public int copy(int bracelet) {
        Ring ring = now.find(bracelet);
        if (ring == null) {
            return NO_SUCH;
        }
        return addFromBox(ring);
    }

    public int remove(int bracelet) {
        Ring ring = now.find(bracelet);
        if (ring == null) {
            return NO_SUCH;
        }
        if (!now.boxHasRoomFor(ring)) {
            return NOT_POSSIBLE;
        }
        record();
        int charms = ring.charms();
        now.putBack(ring);
        return charms;
    }

    public int hang(int bracelet, int slot, int kind) {
        Ring ring = now.find(bracelet);
        if (ring == null || !ring.hasSlot(slot) || !isCharm(kind)) {
            return NO_SUCH;
        }
        if (ring.at(slot) != EMPTY || now.box[kind] < 1) {
            return NOT_POSSIBLE;
        }
        record();
        ring.put(slot, kind);
        now.box[kind]--;
        return now.box[kind];
    }

    public int takeOff(int bracelet, int slot) {
        Ring ring = now.find(bracelet);
        if (ring == null || !ring.hasSlot(slot)) {
            return NO_SUCH;
        }
        int kind = ring.at(slot);
        if (!isCharm(kind) || now.box[kind] >= MOST_IN_BOX) {
            return NOT_POSSIBLE;
        }
        record();
        ring.put(slot, EMPTY);
        now.box[kind]++;
        return kind;
    }

    public int swap(int bracelet, int slot, int other) {
        Ring ring = now.find(bracelet);
        if (ring == null || !ring.hasSlot(slot) || !ring.hasSlot(other)) {
            return NO_SUCH;
        }
        record();
        ring.exchange(slot, other);
        return now.lean(ring);
    }

    public int roll(int bracelet, int slots) {
        Ring ring = now.find(bracelet);
        if (ring == null) {
            return NO_SUCH;
        }
        if (slots < 0 || slots >= ring.size) {
            return BAD_VALUE;
        }
        return change(ring, changeAt(ROLLS, slots, ring.size));
    }

    public int turn(int bracelet, int quarters) {
        Ring ring = now.find(bracelet);
        if (ring == null) {
            return NO_SUCH;
        }
        if (quarters < 0 || quarters >= QUARTERS) {
            return BAD_VALUE;
        }
        return change(ring, changeAt(TURNS, quarters, ring.size));
    }

    public int mirror(int bracelet) {
        Ring ring = now.find(bracelet);
        if (ring == null) {
            return NO_SUCH;
        }
        return change(ring, ring.size);
    }

    public int bracelets() {
        return now.ringSet();
    }

    public int bracelet(int bracelet, int part) {
        Ring ring = now.find(bracelet);
        if (ring == null) {
            return NO_SUCH;
        }
        switch (part) {
            case 0:
                return ring.size;
            case 1:
                return ring.charms();
            case 2:
                return now.weight(ring, 0, ring.size);
            case 3:
                return now.lean(ring);
            default:
                return BAD_VALUE;
        }
    }

    public int slot(int bracelet, int slot) {
        Ring ring = now.find(bracelet);
        if (ring == null || !ring.hasSlot(slot)) {
            return NO_SUCH;
        }
        return ring.at(slot);
    }

    public int quarter(int bracelet, int quarter) {
        Ring ring = now.find(bracelet);
        if (ring == null || quarter < 0 || quarter >= QUARTERS) {
            return NO_SUCH;
        }
        return now.quarterWeight(ring, quarter);
    }

    // ---- alike

    public int alike(int bracelet, int other, int level) {
        Ring ring = now.find(bracelet);
        Ring otherRing = now.find(other);
        if (ring == null || otherRing == null) {
            return NO_SUCH;
        }
        if (!isLevel(level)) {
            return BAD_VALUE;
        }
        return ring.isAlike(otherRing, level) ? 1 : 0;
    }

    public int least(int bracelet, int level, int slot) {
        Ring ring = now.find(bracelet);
        if (ring == null || !ring.hasSlot(slot)) {
            return NO_SUCH;
        }
        if (!isLevel(level)) {
            return BAD_VALUE;
        }
        return ring.kindAfter(ring.leastChange(level), slot);
    }

    public int orbit(int bracelet, int level) {
        Ring ring = now.find(bracelet);
        if (ring == null) {
            return NO_SUCH;
        }
        if (!isLevel(level)) {
            return BAD_VALUE;
        }
        return ring.differentRings(level);
    }

    public int fixed(int bracelet) {
        Ring ring = now.find(bracelet);
        if (ring == null) {
            return NO_SUCH;
        }
        int set = 0;
        for (int t = 0; t < QUARTERS; t++) {
            if (ring.differences(changeAt(TURNS, t, ring.size), ring) == 0) {
                set |= 1 << t;
            }
        }
        return set;
    }

    public int distance(int bracelet, int other) {
        Ring ring = now.find(bracelet);
        Ring otherRing = now.find(other);
        if (ring == null || otherRing == null) {
            return NO_SUCH;
        }
        if (ring.size != otherRing.size) {
            return NONE;
        }
        return ring.leastDifferences(otherRing, ROLLS_AND_MIRRORINGS);
    }

    /** By Burnside's lemma: the classes are as many as the rings that a change leaves, on average. */
    public long classes(int slots, int kinds, int level) {
        if (!isSize(slots) || kinds < 1 || kinds > KINDS || !isLevel(level)) {
            return BAD_VALUE;
        }
        int changes = changeCount(level, slots);
        long left = 0;
        for (int i = 0; i < changes; i++) {
            left += power(kinds, cycles(changeAt(level, i, slots), slots));
        }
        return changes < 1 ? 0 : left / changes;
    }

    // ---- the motif

    public int setMotif(int bracelet, int slot, int signs) {
        Ring ring = now.find(bracelet);
        if (ring == null || !ring.hasSlot(slot)) {
            return NO_SUCH;
        }
        if (signs < 1 || signs > MOST_SIGNS || signs > ring.size) {
            return BAD_VALUE;
        }
        record();
        int leastChange = ring.leastChange(ROLLS);
        now.motif.becomeNone();
        for (int i = 0; i < signs; i++) {
            now.motif.addSign(ring.kindAfter(leastChange, ring.around(slot + i)));
        }
        return Integer.bitCount(now.motif.slotSet(ring));
    }

    public int sign(int index, int sign) {
        Motif motif = now.motif;
        if (index < 0 || index > motif.length || index >= MOST_SIGNS) {
            return NO_SUCH;
        }
        if (!isKindOrEmpty(sign) && sign != ANY) {
            return BAD_VALUE;
        }
        record();
        if (index == motif.length) {
            motif.addSign(sign);
        } else {
            motif.signs[index] = sign;
        }
        return motif.length;
    }

    public int cutMotif() {
        if (now.motif.length < 1) {
            return NOT_POSSIBLE;
        }
        record();
        now.motif.length--;
        return now.motif.length;
    }

    public int motif(int index) {
        if (index < 0 || index >= now.motif.length) {
            return NO_SUCH;
        }
        return now.motif.signs[index];
    }

    public int motifAt(int bracelet) {
        Ring ring = now.find(bracelet);
        if (ring == null) {
            return NO_SUCH;
        }
        return now.motif.slotSet(ring);
    }

    public int staysAt(int bracelet) {
        Ring ring = now.find(bracelet);
        if (ring == null) {
            return NO_SUCH;
        }
        int found = now.motif.slotSet(ring);
        int set = found;
        for (int t = 1; t < QUARTERS; t++) {
            set &= ring.slotsTurnedInto(found, t);
        }
        return set;
    }

    // ---- the list

    public int note(int bracelet) {
        Ring ring = now.find(bracelet);
        if (ring == null) {
            return NO_SUCH;
        }
        int entry = now.list.entryOf(ring);
        if (entry >= MOST_ENTRIES) {
            return LIMIT;
        }
        record();
        now.list.count(entry, ring);
        return entry;
    }

    public int entries() {
        return now.list.length;
    }

    public int entry(int entry, int part) {
        if (entry < 0 || entry >= now.list.length) {
            return NO_SUCH;
        }
        Ring first = now.list.firsts[entry];
        switch (part) {
            case 0:
                return first.size;
            case 1:
                return now.list.times[entry];
            case 2:
                return now.ringsAlike(first, ROLLS);
            default:
                return BAD_VALUE;
        }
    }

    // ---- predictions; they change nothing

    public int ifHung(int bracelet, int slot, int kind) {
        Ring ring = now.find(bracelet);
        if (ring == null || !ring.hasSlot(slot)) {
            return NO_SUCH;
        }
        if (!isKindOrEmpty(kind)) {
            return BAD_VALUE;
        }
        trial.becomeLike(ring);
        trial.put(slot, kind);
        return Integer.bitCount(now.motif.slotSet(trial));
    }

    public int bestSwap(int bracelet) {
        Ring ring = now.find(bracelet);
        if (ring == null) {
            return NO_SUCH;
        }
        trial.becomeLike(ring);
        int best = NONE;
        int leastLean = now.lean(ring);
        for (int first = 0; first < trial.size; first++) {
            for (int second = first + 1; second < trial.size; second++) {
                int lean = leanAfterSwap(trial, first, second);
                if (lean < leastLean) {
                    leastLean = lean;
                    best = 100 * first + second;
                }
            }
        }
        return best;
    }

    // ---- texts

    public int append(int code) {
        if (code < FIRST_CODE || code > LAST_CODE) {
            return BAD_VALUE;
        }
        if (buffer.length >= MOST_CHARACTERS) {
            return LIMIT;
        }
        buffer.codes[buffer.length] = code;
        buffer.length++;
        return buffer.length;
    }

    public int clearText() {
        int before = buffer.length;
        buffer.length = 0;
        return before;
    }

    public int errorPosition() {
        int position = buffer.parse(trial);
        return buffer.isText(position) ? NONE : position;
    }

    public int read() {
        int position = buffer.parse(trial);
        if (!buffer.isText(position)) {
            return BAD_TEXT;
        }
        int bracelet = addFromBox(trial);
        if (bracelet >= 0) {
            buffer.length = 0;
        }
        return bracelet;
    }

    // ---- undo, saved state

    public int undo() {
        if (recordedStates < 1) {
            return NOT_POSSIBLE;
        }
        recordedStates--;
        now.becomeLike(recorded[recordedStates]);
        return recordedStates;
    }

    public int save() {
        saved.becomeLike(now);
        anySaved = true;
        return Integer.bitCount(now.ringSet());
    }

    public int restore() {
        if (!anySaved) {
            return NOT_POSSIBLE;
        }
        record();
        now.becomeLike(saved);
        return Integer.bitCount(now.ringSet());
    }

    // ---- what several calls share

    private void record() {
        if (recordedStates >= MOST_RECORDED) {
            discardOldest();
        }
        recorded[recordedStates].becomeLike(now);
        recordedStates++;
    }

    private void discardOldest() {
        State oldest = recorded[0];
        for (int i = 1; i < MOST_RECORDED; i++) {
            recorded[i - 1] = recorded[i];
        }
        recordedStates = MOST_RECORDED - 1;
        recorded[recordedStates] = oldest;
    }

    private int addFromBox(Ring model) {
        if (!now.boxHasCharmsFor(model)) {
            return NOT_POSSIBLE;
        }
        int number = now.freeNumber();
        if (number >= MOST_BRACELETS) {
            return LIMIT;
        }
        record();
        now.takeOut(model);
        now.rings[number].becomeLike(model);
        return number;
    }

    private int change(Ring ring, int change) {
        record();
        int differences = ring.differences(change, ring);
        trial.becomeLike(ring);
        for (int s = 0; s < ring.size; s++) {
            ring.put(s, trial.kindAfter(change, s));
        }
        return differences;
    }

    private int leanAfterSwap(Ring ring, int first, int second) {
        ring.exchange(first, second);
        int lean = now.lean(ring);
        ring.exchange(first, second);
        return lean;
    }

    private static boolean isCharm(int kind) {
        return kind >= 1 && kind <= KINDS;
    }

    private static boolean isKindOrEmpty(int kind) {
        return kind == EMPTY || isCharm(kind);
    }

    private static boolean isSize(int slots) {
        return slots >= QUARTERS && slots <= MOST_SLOTS && slots % QUARTERS == 0;
    }

    private static boolean isLevel(int level) {
        return level >= TURNS && level <= ROLLS_AND_MIRRORINGS;
    }

    // ---- changes of a ring of so many slots, by number: the number k below the number of slots is
    // ---- the roll by k, and that number plus k is the mirroring followed by the roll by k

    private static int changeCount(int level, int slots) {
        switch (level) {
            case TURNS:
                return QUARTERS;
            case ROLLS:
                return slots;
            default:
                return 2 * slots;
        }
    }

    private static int changeAt(int level, int index, int slots) {
        return level == TURNS ? index * slots / QUARTERS : index;
    }

    // A change leaves a ring as it is if the slots that it moves around in one cycle hold the same.
    private static int cycles(int change, int slots) {
        if (change < slots) {
            return greatestCommonDivisor(slots, change);
        }
        boolean leavesTwoSlots = (change - slots) % 2 == 0;
        return leavesTwoSlots ? slots / 2 + 1 : slots / 2;
    }

    private static int greatestCommonDivisor(int a, int b) {
        for (int d = a; d > 1; d--) {
            if (a % d == 0 && b % d == 0) {
                return d;
            }
        }
        return 1;
    }

    private static long power(int base, int exponent) {
        long power = 1;
        for (int i = 0; i < exponent; i++) {
            power *= base;
        }
        return power;
    }

    /** The slots of a bracelet and what is in them. */
    private static final class Ring {
        // 0 if there is no bracelet here.
        private int size;
        private final int[] kinds = new int[MOST_SLOTS];

        private void becomeEmpty(int slots) {
            size = slots;
            for (int s = 0; s < kinds.length; s++) {
                kinds[s] = EMPTY;
            }
        }

        private void becomeLike(Ring other) {
            size = other.size;
            System.arraycopy(other.kinds, 0, kinds, 0, MOST_SLOTS);
        }

        private boolean hasSlot(int slot) {
            return slot >= 0 && slot < size;
        }

        private int at(int slot) {
            return slot >= 0 && slot < kinds.length ? kinds[slot] : EMPTY;
        }

        private void put(int slot, int kind) {
            if (slot >= 0 && slot < kinds.length) {
                kinds[slot] = kind;
            }
        }

        private void exchange(int slot, int other) {
            int kind = at(slot);
            put(slot, at(other));
            put(other, kind);
        }

        /** Takes a number that has left the ring by less than one round back into it. */
        private int around(int slot) {
            if (slot < 0) {
                return slot + size;
            }
            return slot < size ? slot : slot - size;
        }

        private int charms() {
            return size - charmsOf(EMPTY);
        }

        private int charmsOf(int kind) {
            int charms = 0;
            for (int s = 0; s < size; s++) {
                if (at(s) == kind) {
                    charms++;
                }
            }
            return charms;
        }

        private int kindAfter(int change, int slot) {
            int from = change < size ? slot - change : change - size - slot;
            return at(around(from));
        }

        /** This ring, changed, is held against another one of the same size. */
        private int differences(int change, Ring other) {
            int differences = 0;
            for (int s = 0; s < size; s++) {
                if (kindAfter(change, s) != other.at(s)) {
                    differences++;
                }
            }
            return differences;
        }

        private int leastDifferences(Ring other, int level) {
            int least = size;
            int changes = changeCount(level, size);
            for (int i = 0; i < changes; i++) {
                least = Math.min(least, differences(changeAt(level, i, size), other));
            }
            return least;
        }

        private boolean isAlike(Ring other, int level) {
            return size == other.size && leastDifferences(other, level) == 0;
        }

        private int leastChange(int level) {
            int best = 0;
            int changes = changeCount(level, size);
            for (int i = 1; i < changes; i++) {
                int change = changeAt(level, i, size);
                if (comesFirst(change, best)) {
                    best = change;
                }
            }
            return best;
        }

        private boolean comesFirst(int change, int other) {
            for (int s = 0; s < size; s++) {
                int kind = kindAfter(change, s);
                int otherKind = kindAfter(other, s);
                if (kind != otherKind) {
                    return kind < otherKind;
                }
            }
            return false;
        }

        /** Each of the different rings is made by as many changes as leave this ring as it is. */
        private int differentRings(int level) {
            int leaving = 0;
            int changes = changeCount(level, size);
            for (int i = 0; i < changes; i++) {
                if (differences(changeAt(level, i, size), this) == 0) {
                    leaving++;
                }
            }
            return leaving < 1 ? changes : changes / leaving;
        }

        private int slotsTurnedInto(int slotSet, int quarters) {
            int slots = 0;
            for (int s = 0; s < size; s++) {
                int into = around(s + changeAt(TURNS, quarters, size));
                if ((slotSet >> into & 1) != 0) {
                    slots |= 1 << s;
                }
            }
            return slots;
        }
    }

    /** Signs that are looked for on a bracelet; none of them if there is no motif. */
    private static final class Motif {
        private int length;
        private final int[] signs = new int[MOST_SIGNS];

        private void becomeNone() {
            length = 0;
        }

        private void becomeLike(Motif other) {
            length = other.length;
            System.arraycopy(other.signs, 0, signs, 0, MOST_SIGNS);
        }

        private void addSign(int sign) {
            if (length < signs.length) {
                signs[length] = sign;
                length++;
            }
        }

        private int slotSet(Ring ring) {
            int set = 0;
            for (int s = 0; s < ring.size; s++) {
                if (isAt(ring, s)) {
                    set |= 1 << s;
                }
            }
            return set;
        }

        private boolean isAt(Ring ring, int slot) {
            if (length < 1 || length > ring.size) {
                return false;
            }
            for (int i = 0; i < length && i < signs.length; i++) {
                if (signs[i] != ANY && signs[i] != ring.at(ring.around(slot + i))) {
                    return false;
                }
            }
            return true;
        }
    }

    /** The list of the classes of bracelets that were noted. */
    private static final class NotedList {
        private int length;
        // The first bracelet that was noted stands for its class: what is alike to it is in the class.
        private final Ring[] firsts = new Ring[MOST_ENTRIES];
        private final int[] times = new int[MOST_ENTRIES];

        private NotedList() {
            for (int i = 0; i < firsts.length; i++) {
                firsts[i] = new Ring();
            }
        }

        private void becomeLike(NotedList other) {
            length = other.length;
            for (int i = 0; i < firsts.length; i++) {
                firsts[i].becomeLike(other.firsts[i]);
            }
            System.arraycopy(other.times, 0, times, 0, MOST_ENTRIES);
        }

        /** The entry of a ring's class; the one behind the last if its class has none yet. */
        private int entryOf(Ring ring) {
            for (int i = 0; i < length && i < firsts.length; i++) {
                if (firsts[i].isAlike(ring, ROLLS)) {
                    return i;
                }
            }
            return length;
        }

        private void count(int entry, Ring ring) {
            if (entry < 0 || entry >= firsts.length) {
                return;
            }
            if (entry == length) {
                firsts[entry].becomeLike(ring);
                times[entry] = 0;
                length++;
            }
            times[entry]++;
        }
    }

    /** All that undo and restore bring back. */
    private static final class State {
        // Both by kind; there is nothing at 0.
        private final int[] box = new int[KINDS + 1];
        private final int[] weights = new int[KINDS + 1];
        private final Ring[] rings = new Ring[MOST_BRACELETS];
        private final Motif motif = new Motif();
        private final NotedList list = new NotedList();

        private State() {
            for (int k = 1; k <= KINDS; k++) {
                box[k] = FULL_BOX;
                weights[k] = 2 * k;
            }
            for (int i = 0; i < rings.length; i++) {
                rings[i] = new Ring();
            }
        }

        private void becomeLike(State other) {
            System.arraycopy(other.box, 0, box, 0, KINDS + 1);
            System.arraycopy(other.weights, 0, weights, 0, KINDS + 1);
            for (int i = 0; i < rings.length; i++) {
                rings[i].becomeLike(other.rings[i]);
            }
            motif.becomeLike(other.motif);
            list.becomeLike(other.list);
        }

        /** The bracelet of a number, null if there is none. */
        private Ring find(int number) {
            if (number < 0 || number >= rings.length || rings[number].size == 0) {
                return null;
            }
            return rings[number];
        }

        /** The lowest number that no bracelet has; behind the last one if all are taken. */
        private int freeNumber() {
            for (int i = 0; i < rings.length; i++) {
                if (rings[i].size == 0) {
                    return i;
                }
            }
            return rings.length;
        }

        private int ringSet() {
            int set = 0;
            for (int i = 0; i < rings.length; i++) {
                if (rings[i].size != 0) {
                    set |= 1 << i;
                }
            }
            return set;
        }

        private int ringsAlike(Ring ring, int level) {
            int alike = 0;
            for (int i = 0; i < rings.length; i++) {
                if (rings[i].isAlike(ring, level)) {
                    alike++;
                }
            }
            return alike;
        }

        private int charmsHung(int kind) {
            int charms = 0;
            for (int i = 0; i < rings.length; i++) {
                charms += rings[i].charmsOf(kind);
            }
            return charms;
        }

        private boolean boxHasCharmsFor(Ring ring) {
            for (int k = 1; k <= KINDS; k++) {
                if (ring.charmsOf(k) > box[k]) {
                    return false;
                }
            }
            return true;
        }

        private boolean boxHasRoomFor(Ring ring) {
            for (int k = 1; k <= KINDS; k++) {
                if (box[k] + ring.charmsOf(k) > MOST_IN_BOX) {
                    return false;
                }
            }
            return true;
        }

        private void takeOut(Ring ring) {
            for (int k = 1; k <= KINDS; k++) {
                box[k] -= ring.charmsOf(k);
            }
        }

        private void putBack(Ring ring) {
            for (int k = 1; k <= KINDS; k++) {
                box[k] += ring.charmsOf(k);
            }
            ring.becomeEmpty(0);
        }

        private int weight(Ring ring, int from, int end) {
            int weight = 0;
            for (int s = from; s < end; s++) {
                int kind = ring.at(s);
                if (isCharm(kind)) {
                    weight += weights[kind];
                }
            }
            return weight;
        }

        private int quarterWeight(Ring ring, int quarter) {
            return weight(ring, quarter * ring.size / QUARTERS, (quarter + 1) * ring.size / QUARTERS);
        }

        private int lean(Ring ring) {
            return Math.abs(quarterWeight(ring, 0) - quarterWeight(ring, 2))
                    + Math.abs(quarterWeight(ring, 1) - quarterWeight(ring, 3));
        }
    }

    /** The buffer, and a parser that goes through it from the left. */
    private static final class Text {
        private int length;
        private final int[] codes = new int[MOST_CHARACTERS];
        // What the parser has read so far: the slots of whole runs, and the digits of the next run.
        private int total;
        private int number;

        /** Fills a ring with the runs; returns the index of the first error, the length if there is none. */
        private int parse(Ring ring) {
            ring.becomeEmpty(0);
            total = 0;
            number = 0;
            for (int i = 0; i < length && i < codes.length; i++) {
                int code = codes[i];
                boolean accepted = isDigit(code) ? acceptDigit(code - '0') : acceptRun(kindOf(code), ring);
                if (!accepted) {
                    return i;
                }
            }
            return length;
        }

        /** Whether the buffer is a text, if the parser came to this position. */
        private boolean isText(int position) {
            return position == length && number == 0 && isSize(total);
        }

        private boolean acceptDigit(int digit) {
            int longer = 10 * number + digit;
            // No number is 1, so that a 1 is at least the beginning of 10.
            int leastNumber = longer == 1 ? 10 : longer;
            if (longer == 0 || total + leastNumber > MOST_SLOTS) {
                return false;
            }
            number = longer;
            return true;
        }

        private boolean acceptRun(int kind, Ring ring) {
            int run = number == 0 ? 1 : number;
            if (!isKindOrEmpty(kind) || number == 1 || total + run > MOST_SLOTS) {
                return false;
            }
            for (int i = 0; i < run; i++) {
                ring.put(total + i, kind);
            }
            total += run;
            ring.size = total;
            number = 0;
            return true;
        }

        private static boolean isDigit(int code) {
            return code >= '0' && code <= '9';
        }

        private static int kindOf(int code) {
            if (code == '-') {
                return EMPTY;
            }
            return code >= 'a' && code <= 'e' ? code - 'a' + 1 : NO_SUCH;
        }
    }
}
