import java.util.ArrayDeque;
import java.util.ArrayList;
import java.util.Arrays;
import java.util.Collections;
import java.util.Deque;
import java.util.HashSet;
import java.util.List;
import java.util.TreeMap;
import java.util.regex.Matcher;
import java.util.regex.Pattern;

/** The document once more, word for word and with the Java library: what the program is held against. */
final class Model {
    private static final int NO_SUCH = -1;
    private static final int BAD_VALUE = -2;
    private static final int NOT_POSSIBLE = -3;
    private static final int LIMIT = -4;
    private static final int BAD_TEXT = -5;
    private static final int NONE = -6;
    private static final int ANY = 9;
    private static final Pattern TEXT = Pattern.compile("(([2-9]|1[0-6])?[a-e-])+");
    private static final Pattern RUN = Pattern.compile("([0-9]*)([a-e-])");

    private record Entry(List<Integer> form, int times) { }

    private static final class State {
        private final int[] box;
        private final int[] weight;
        private final TreeMap<Integer, List<Integer>> rings = new TreeMap<>();
        private final List<Integer> motif;
        private final List<Entry> list;

        private State() {
            box = new int[] {0, 12, 12, 12, 12, 12};
            weight = new int[] {0, 2, 4, 6, 8, 10};
            motif = new ArrayList<>();
            list = new ArrayList<>();
        }

        private State(State other) {
            box = other.box.clone();
            weight = other.weight.clone();
            other.rings.forEach((number, ring) -> rings.put(number, new ArrayList<>(ring)));
            motif = new ArrayList<>(other.motif);
            list = new ArrayList<>(other.list);
        }
    }

    private State now = new State();
    private State saved = null;
    private final Deque<State> recorded = new ArrayDeque<>();
    private String buffer = "";

    private void record() {
        recorded.addLast(new State(now));
        if (recorded.size() > 5) {
            recorded.removeFirst();
        }
    }

    private boolean no(int bracelet) {
        return !now.rings.containsKey(bracelet);
    }

    private boolean no(int bracelet, int slot) {
        return no(bracelet) || slot < 0 || slot >= now.rings.get(bracelet).size();
    }

    private static boolean in(int value, int least, int most) {
        return least <= value && value <= most;
    }

    private static List<Integer> rolled(List<Integer> ring, int slots) {
        List<Integer> result = new ArrayList<>(ring);
        Collections.rotate(result, slots);
        return result;
    }

    private static List<Integer> mirrored(List<Integer> ring) {
        List<Integer> result = new ArrayList<>(ring);
        for (int s = 0; s < ring.size(); s++) {
            result.set((ring.size() - s) % ring.size(), ring.get(s));
        }
        return result;
    }

    private static List<List<Integer>> changed(List<Integer> ring, int level) {
        List<List<Integer>> all = new ArrayList<>();
        int n = ring.size();
        for (int k = 0; k < n; k++) {
            if (level > 0 || k % (n / 4) == 0) {
                all.add(rolled(ring, k));
            }
            if (level == 2) {
                all.add(rolled(mirrored(ring), k));
            }
        }
        return all;
    }

    private static int compare(List<Integer> a, List<Integer> b) {
        return Arrays.compare(a.stream().mapToInt(i -> i).toArray(), b.stream().mapToInt(i -> i).toArray());
    }

    private static List<Integer> least(List<Integer> ring, int level) {
        return Collections.min(changed(ring, level), Model::compare);
    }

    private static int differences(List<Integer> a, List<Integer> b) {
        int count = 0;
        for (int s = 0; s < a.size(); s++) {
            count += a.get(s).equals(b.get(s)) ? 0 : 1;
        }
        return count;
    }

    private int weight(List<Integer> slots) {
        return slots.stream().mapToInt(k -> now.weight[k]).sum();
    }

    private int quarterOf(List<Integer> ring, int q) {
        return weight(ring.subList(q * ring.size() / 4, (q + 1) * ring.size() / 4));
    }

    private int lean(List<Integer> ring) {
        return Math.abs(quarterOf(ring, 0) - quarterOf(ring, 2)) + Math.abs(quarterOf(ring, 1) - quarterOf(ring, 3));
    }

    private int motifSet(List<Integer> ring) {
        int set = 0;
        for (int s = 0; s < ring.size(); s++) {
            boolean at = !now.motif.isEmpty() && now.motif.size() <= ring.size();
            for (int i = 0; at && i < now.motif.size(); i++) {
                int sign = now.motif.get(i);
                at = sign == ANY || sign == ring.get((s + i) % ring.size());
            }
            set += at ? 1 << s : 0;
        }
        return set;
    }

    private int add(List<Integer> ring) {
        for (int k = 1; k <= 5; k++) {
            if (Collections.frequency(ring, k) > now.box[k]) {
                return NOT_POSSIBLE;
            }
        }
        if (now.rings.size() == 6) {
            return LIMIT;
        }
        record();
        int number = 0;
        while (now.rings.containsKey(number)) {
            number++;
        }
        for (int k = 1; k <= 5; k++) {
            now.box[k] -= Collections.frequency(ring, k);
        }
        now.rings.put(number, new ArrayList<>(ring));
        return number;
    }

    private int replace(int bracelet, List<Integer> ring) {
        record();
        return differences(ring, now.rings.put(bracelet, ring));
    }

    int fill(int kind, int number) {
        if (!in(kind, 1, 5)) {
            return NO_SUCH;
        }
        if (!in(number, 0, 99)) {
            return BAD_VALUE;
        }
        record();
        int old = now.box[kind];
        now.box[kind] = number;
        return old;
    }

    int weigh(int kind, int weight) {
        if (!in(kind, 1, 5)) {
            return NO_SUCH;
        }
        if (!in(weight, 1, 50)) {
            return BAD_VALUE;
        }
        record();
        int old = now.weight[kind];
        now.weight[kind] = weight;
        return old;
    }

    int kind(int kind, int part) {
        if (!in(kind, 1, 5)) {
            return NO_SUCH;
        }
        if (!in(part, 0, 2)) {
            return BAD_VALUE;
        }
        int hung = now.rings.values().stream().mapToInt(ring -> Collections.frequency(ring, kind)).sum();
        return new int[] {now.box[kind], now.weight[kind], hung}[part];
    }

    int make(int slots) {
        return Arrays.asList(4, 8, 12, 16).contains(slots) ? add(Collections.nCopies(slots, 0)) : BAD_VALUE;
    }

    int copy(int bracelet) {
        return no(bracelet) ? NO_SUCH : add(now.rings.get(bracelet));
    }

    int remove(int bracelet) {
        if (no(bracelet)) {
            return NO_SUCH;
        }
        List<Integer> ring = now.rings.get(bracelet);
        for (int k = 1; k <= 5; k++) {
            if (now.box[k] + Collections.frequency(ring, k) > 99) {
                return NOT_POSSIBLE;
            }
        }
        record();
        for (int kind : ring) {
            now.box[kind] += kind == 0 ? 0 : 1;
        }
        now.rings.remove(bracelet);
        return ring.size() - Collections.frequency(ring, 0);
    }

    int hang(int bracelet, int slot, int kind) {
        if (no(bracelet, slot) || !in(kind, 1, 5)) {
            return NO_SUCH;
        }
        if (now.rings.get(bracelet).get(slot) != 0 || now.box[kind] == 0) {
            return NOT_POSSIBLE;
        }
        record();
        now.rings.get(bracelet).set(slot, kind);
        return --now.box[kind];
    }

    int takeOff(int bracelet, int slot) {
        if (no(bracelet, slot)) {
            return NO_SUCH;
        }
        int kind = now.rings.get(bracelet).get(slot);
        if (kind == 0 || now.box[kind] == 99) {
            return NOT_POSSIBLE;
        }
        record();
        now.rings.get(bracelet).set(slot, 0);
        now.box[kind]++;
        return kind;
    }

    int swap(int bracelet, int slot, int other) {
        if (no(bracelet, slot) || no(bracelet, other)) {
            return NO_SUCH;
        }
        record();
        Collections.swap(now.rings.get(bracelet), slot, other);
        return lean(now.rings.get(bracelet));
    }

    int roll(int bracelet, int slots) {
        if (no(bracelet)) {
            return NO_SUCH;
        }
        return no(bracelet, slots) ? BAD_VALUE : replace(bracelet, rolled(now.rings.get(bracelet), slots));
    }

    int turn(int bracelet, int quarters) {
        if (no(bracelet)) {
            return NO_SUCH;
        }
        List<Integer> ring = now.rings.get(bracelet);
        return in(quarters, 0, 3) ? replace(bracelet, rolled(ring, quarters * (ring.size() / 4))) : BAD_VALUE;
    }

    int mirror(int bracelet) {
        return no(bracelet) ? NO_SUCH : replace(bracelet, mirrored(now.rings.get(bracelet)));
    }

    int bracelets() {
        return now.rings.keySet().stream().mapToInt(number -> 1 << number).sum();
    }

    int bracelet(int bracelet, int part) {
        if (no(bracelet)) {
            return NO_SUCH;
        }
        List<Integer> ring = now.rings.get(bracelet);
        int charms = (int) ring.stream().filter(kind -> kind > 0).count();
        return in(part, 0, 3) ? new int[] {ring.size(), charms, weight(ring), lean(ring)}[part] : BAD_VALUE;
    }

    int slot(int bracelet, int slot) {
        return no(bracelet, slot) ? NO_SUCH : now.rings.get(bracelet).get(slot);
    }

    int quarter(int bracelet, int quarter) {
        return no(bracelet) || !in(quarter, 0, 3) ? NO_SUCH : quarterOf(now.rings.get(bracelet), quarter);
    }

    int alike(int bracelet, int other, int level) {
        if (no(bracelet) || no(other)) {
            return NO_SUCH;
        }
        if (!in(level, 0, 2)) {
            return BAD_VALUE;
        }
        return changed(now.rings.get(bracelet), level).contains(now.rings.get(other)) ? 1 : 0;
    }

    int least(int bracelet, int level, int slot) {
        if (no(bracelet, slot)) {
            return NO_SUCH;
        }
        return in(level, 0, 2) ? least(now.rings.get(bracelet), level).get(slot) : BAD_VALUE;
    }

    int orbit(int bracelet, int level) {
        if (no(bracelet)) {
            return NO_SUCH;
        }
        return in(level, 0, 2) ? new HashSet<>(changed(now.rings.get(bracelet), level)).size() : BAD_VALUE;
    }

    int fixed(int bracelet) {
        if (no(bracelet)) {
            return NO_SUCH;
        }
        List<Integer> ring = now.rings.get(bracelet);
        int set = 0;
        for (int t = 0; t < 4; t++) {
            set += rolled(ring, t * ring.size() / 4).equals(ring) ? 1 << t : 0;
        }
        return set;
    }

    int distance(int bracelet, int other) {
        if (no(bracelet) || no(other)) {
            return NO_SUCH;
        }
        List<Integer> to = now.rings.get(other);
        if (now.rings.get(bracelet).size() != to.size()) {
            return NONE;
        }
        return changed(now.rings.get(bracelet), 2).stream().mapToInt(ring -> differences(ring, to)).min().getAsInt();
    }

    /** The rings that a change leaves, summed over the changes; a ring's numbered slots show its cycles. */
    long classes(int slots, int kinds, int level) {
        if (!Arrays.asList(4, 8, 12, 16).contains(slots) || !in(kinds, 1, 5) || !in(level, 0, 2)) {
            return BAD_VALUE;
        }
        List<Integer> numbers = new ArrayList<>();
        for (int s = 0; s < slots; s++) {
            numbers.add(s);
        }
        List<List<Integer>> changes = changed(numbers, level);
        long sum = 0;
        for (List<Integer> change : changes) {
            long left = 1;
            HashSet<Integer> seen = new HashSet<>();
            for (int s = 0; s < slots; s++) {
                left *= seen.contains(s) ? 1 : kinds;
                for (int at = s; seen.add(at);) {
                    at = change.get(at);
                }
            }
            sum += left;
        }
        return sum / changes.size();
    }

    int setMotif(int bracelet, int slot, int signs) {
        if (no(bracelet, slot)) {
            return NO_SUCH;
        }
        List<Integer> ring = now.rings.get(bracelet);
        if (!in(signs, 1, Math.min(6, ring.size()))) {
            return BAD_VALUE;
        }
        record();
        now.motif.clear();
        now.motif.addAll(rolled(least(ring, 1), -slot).subList(0, signs));
        return Integer.bitCount(motifSet(ring));
    }

    int sign(int index, int sign) {
        if (!in(index, 0, now.motif.size()) || index == 6) {
            return NO_SUCH;
        }
        if (!in(sign, 0, 5) && sign != ANY) {
            return BAD_VALUE;
        }
        record();
        if (index < now.motif.size()) {
            now.motif.remove(index);
        }
        now.motif.add(index, sign);
        return now.motif.size();
    }

    int cutMotif() {
        if (now.motif.isEmpty()) {
            return NOT_POSSIBLE;
        }
        record();
        now.motif.remove(now.motif.size() - 1);
        return now.motif.size();
    }

    int motif(int index) {
        return in(index, 0, now.motif.size() - 1) ? now.motif.get(index) : NO_SUCH;
    }

    int motifAt(int bracelet) {
        return no(bracelet) ? NO_SUCH : motifSet(now.rings.get(bracelet));
    }

    int staysAt(int bracelet) {
        if (no(bracelet)) {
            return NO_SUCH;
        }
        int n = now.rings.get(bracelet).size();
        int at = motifSet(now.rings.get(bracelet));
        int set = 0;
        for (int s = 0; s < n; s++) {
            boolean stays = true;
            for (int t = 0; t < 4; t++) {
                stays &= (at >> (s + t * n / 4) % n & 1) == 1;
            }
            set += stays ? 1 << s : 0;
        }
        return set;
    }

    int note(int bracelet) {
        if (no(bracelet)) {
            return NO_SUCH;
        }
        List<Integer> form = least(now.rings.get(bracelet), 1);
        for (int e = 0; e < now.list.size(); e++) {
            if (now.list.get(e).form.equals(form)) {
                record();
                now.list.set(e, new Entry(form, now.list.get(e).times + 1));
                return e;
            }
        }
        if (now.list.size() == 10) {
            return LIMIT;
        }
        record();
        now.list.add(new Entry(form, 1));
        return now.list.size() - 1;
    }

    int entries() {
        return now.list.size();
    }

    int entry(int entry, int part) {
        if (!in(entry, 0, now.list.size() - 1)) {
            return NO_SUCH;
        }
        Entry found = now.list.get(entry);
        int alike = (int) now.rings.values().stream().filter(ring -> least(ring, 1).equals(found.form)).count();
        return in(part, 0, 2) ? new int[] {found.form.size(), found.times, alike}[part] : BAD_VALUE;
    }

    int ifHung(int bracelet, int slot, int kind) {
        if (no(bracelet, slot)) {
            return NO_SUCH;
        }
        List<Integer> ring = new ArrayList<>(now.rings.get(bracelet));
        ring.set(slot, kind);
        return in(kind, 0, 5) ? Integer.bitCount(motifSet(ring)) : BAD_VALUE;
    }

    int bestSwap(int bracelet) {
        if (no(bracelet)) {
            return NO_SUCH;
        }
        List<Integer> ring = now.rings.get(bracelet);
        TreeMap<Integer, Integer> firstOfLean = new TreeMap<>();
        for (int i = 0; i < ring.size(); i++) {
            for (int j = i + 1; j < ring.size(); j++) {
                List<Integer> swapped = new ArrayList<>(ring);
                Collections.swap(swapped, i, j);
                firstOfLean.putIfAbsent(lean(swapped), 100 * i + j);
            }
        }
        return firstOfLean.firstKey() < lean(ring) ? firstOfLean.firstEntry().getValue() : NONE;
    }

    int append(int code) {
        if (!in(code, 33, 126)) {
            return BAD_VALUE;
        }
        if (buffer.length() == 60) {
            return LIMIT;
        }
        buffer += (char) code;
        return buffer.length();
    }

    int clearText() {
        int length = buffer.length();
        buffer = "";
        return length;
    }

    /** The slots of a text; none of what is not one. */
    private static List<Integer> slotsOf(String text) {
        List<Integer> ring = new ArrayList<>();
        if (TEXT.matcher(text).matches()) {
            Matcher run = RUN.matcher(text);
            while (run.find()) {
                int times = run.group(1).isEmpty() ? 1 : Integer.parseInt(run.group(1));
                ring.addAll(Collections.nCopies(times, "-abcde".indexOf(run.group(2))));
            }
        }
        return Arrays.asList(4, 8, 12, 16).contains(ring.size()) ? ring : List.of();
    }

    /** Whether a text begins so: a digit at most is missing to it, and then so many single slots. */
    private static boolean beginsText(String start) {
        for (String digit : "/0/1/2/3/4/5/6/7/8/9".split("/")) {
            for (int n = 0; n <= 16; n++) {
                if (!slotsOf(start + digit + "-".repeat(n)).isEmpty()) {
                    return true;
                }
            }
        }
        return false;
    }

    int errorPosition() {
        for (int i = 0; i < buffer.length(); i++) {
            if (!beginsText(buffer.substring(0, i + 1))) {
                return i;
            }
        }
        return slotsOf(buffer).isEmpty() ? buffer.length() : NONE;
    }

    int read() {
        List<Integer> ring = slotsOf(buffer);
        if (ring.isEmpty()) {
            return BAD_TEXT;
        }
        int number = add(ring);
        buffer = number < 0 ? buffer : "";
        return number;
    }

    int undo() {
        if (recorded.isEmpty()) {
            return NOT_POSSIBLE;
        }
        now = recorded.removeLast();
        return recorded.size();
    }

    int save() {
        saved = new State(now);
        return now.rings.size();
    }

    int restore() {
        if (saved == null) {
            return NOT_POSSIBLE;
        }
        record();
        now = new State(saved);
        return now.rings.size();
    }
}
