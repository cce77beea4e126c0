import java.util.ArrayList;
import java.util.Arrays;
import java.util.NoSuchElementException;

/**
 * Lasting versions of queues, heaps, lists, maps and joined rows: every operation makes a new
 * version, and all the old ones stay as they were.
 *
 * <p>Whatever its kind and form, a version is kept as one plain row of its elements, in the order in
 * which at() tells them; a form shows only in what parts() and kind() answer, and in join().
 */
public final class LastingShapes {
    private static final int HEAP = 1;
    private static final int LIST = 2;
    private static final int MAP = 3;
    private static final int CHAIN = 4;

    /** How many forms each kind has, by the kind's number. */
    private static final int[] FORMS = {3, 3, 2, 2, 1};

    private static final int MOST_VERSIONS = 64;
    private static final int MOST_ELEMENTS = 100;
    private static final int MOST_KEY = 255;

    /** The largest tree, one of 1, 3, 7, 15, .., that MOST_ELEMENTS leaves room for. */
    private static final int LARGEST_TREE = 63;

    /** All versions, each at the place that is its number. */
    private final ArrayList<Version> made;

    public LastingShapes() {
        made = new ArrayList<>();
    }

    public int empty(int kind, int form) throws IllegalArgumentException, IllegalStateException {
        if (!isKindWithForm(kind, form)) {
            throw new IllegalArgumentException("no such kind or form");
        }
        refuseBeyondLimits(0);
        return keep(new Version(kind, form, new int[0], new int[0]));
    }

    public int add(int v, int x) throws IllegalArgumentException, IllegalStateException {
        Version old = foundButNoMap(v);
        refuseBeyondLimits(old.elements.length + 1);
        return keep(old.with(inserted(old.elements, placeToAdd(old, x), x)));
    }

    public int first(int v) throws IllegalArgumentException, NoSuchElementException {
        Version old = foundButNoMap(v);
        refuseWithoutElements(old);
        return old.elements[0];
    }

    public int rest(int v)
            throws IllegalArgumentException, IllegalStateException, NoSuchElementException {
        Version old = foundButNoMap(v);
        refuseBeyondLimits(old.elements.length - 1);
        refuseWithoutElements(old);
        return keep(old.with(Arrays.copyOfRange(old.elements, 1, old.elements.length)));
    }

    public int join(int v, int w) throws IllegalArgumentException, IllegalStateException {
        Version left = found(v);
        Version right = found(w);
        if (!canBeJoined(left, right)) {
            throw new IllegalArgumentException("not two heaps or two chains of one form");
        }
        refuseBeyondLimits(left.elements.length + right.elements.length);
        int[] both = left.kind == HEAP
                ? merged(left.elements, right.elements)
                : appended(left.elements, right.elements);
        return keep(left.with(both));
    }

    public int bind(int v, int key, int x) throws IllegalArgumentException, IllegalStateException {
        Version old = foundOfKind(v, MAP);
        if (key < 0 || key > MOST_KEY) {
            throw new IllegalArgumentException("no key that a map may have");
        }
        int place = countBelow(old.keys, key);
        if (hasAt(old.keys, place, key)) {
            refuseBeyondLimits(old.elements.length);
            return keep(old.with(replaced(old.elements, place, x)));
        }
        refuseBeyondLimits(old.elements.length + 1);
        int[] keys = inserted(old.keys, place, key);
        return keep(new Version(old.kind, old.form, inserted(old.elements, place, x), keys));
    }

    public int value(int v, int key) throws IllegalArgumentException, NoSuchElementException {
        Version old = foundOfKind(v, MAP);
        int place = countBelow(old.keys, key);
        if (!hasAt(old.keys, place, key)) {
            throw new NoSuchElementException("no such key");
        }
        return old.elements[place];
    }

    public int update(int v, int i, int x)
            throws IllegalArgumentException, IllegalStateException, IndexOutOfBoundsException {
        Version old = foundOfKind(v, LIST);
        refuseBeyondLimits(old.elements.length);
        refuseOutside(old, i);
        return keep(old.with(replaced(old.elements, i, x)));
    }

    public int at(int v, int i) throws IllegalArgumentException, IndexOutOfBoundsException {
        Version old = found(v);
        refuseOutside(old, i);
        return old.elements[i];
    }

    public int size(int v) throws IllegalArgumentException {
        return found(v).elements.length;
    }

    public int parts(int v) throws IllegalArgumentException {
        Version old = found(v);
        int elements = old.elements.length;
        if (old.kind == LIST && old.form == 0) {
            return fewestTrees(elements);
        }
        if (old.form == 1 && (old.kind == LIST || old.kind == HEAP)) {
            return Integer.bitCount(elements);
        }
        return Math.min(elements, 1);
    }

    public int kind(int v) throws IllegalArgumentException {
        Version old = found(v);
        return 10 * old.kind + old.form;
    }

    public int versions() {
        return made.size();
    }

    private Version found(int v) {
        if (v < 0 || v >= made.size()) {
            throw new IllegalArgumentException("no such version");
        }
        return made.get(v);
    }

    private Version foundOfKind(int v, int kind) {
        Version old = found(v);
        if (old.kind != kind) {
            throw new IllegalArgumentException("the version is of another kind");
        }
        return old;
    }

    private Version foundButNoMap(int v) {
        Version old = found(v);
        if (old.kind == MAP) {
            throw new IllegalArgumentException("the version is a map");
        }
        return old;
    }

    private void refuseBeyondLimits(int elements) {
        if (made.size() >= MOST_VERSIONS) {
            throw new IllegalStateException("no room for a version more");
        }
        if (elements > MOST_ELEMENTS) {
            throw new IllegalStateException("too many elements");
        }
    }

    private int keep(Version version) {
        made.add(version);
        return made.size() - 1;
    }

    private static void refuseWithoutElements(Version version) {
        if (version.elements.length == 0) {
            throw new NoSuchElementException("no element");
        }
    }

    private static void refuseOutside(Version version, int i) {
        if (i < 0 || i >= version.elements.length) {
            throw new IndexOutOfBoundsException("no such place");
        }
    }

    private static boolean isKindWithForm(int kind, int form) {
        return kind >= 0 && kind < FORMS.length && form >= 0 && form < FORMS[kind];
    }

    private static boolean canBeJoined(Version left, Version right) {
        return left.kind == right.kind
                && left.form == right.form
                && (left.kind == HEAP || left.kind == CHAIN);
    }

    private static int placeToAdd(Version old, int x) {
        switch (old.kind) {
            case LIST:
                return 0;
            case HEAP:
                return countBelow(old.elements, x);
            default:
                return old.elements.length;
        }
    }

    /** In a rising row, this is also the place where x stands or would have to be put. */
    private static int countBelow(int[] rising, int x) {
        int place = 0;
        while (place < rising.length && rising[place] < x) {
            place++;
        }
        return place;
    }

    private static boolean hasAt(int[] row, int place, int x) {
        return place < row.length && row[place] == x;
    }

    private static int[] inserted(int[] row, int place, int x) {
        int[] longer = new int[row.length + 1];
        System.arraycopy(row, 0, longer, 0, place);
        longer[place] = x;
        System.arraycopy(row, place, longer, place + 1, row.length - place);
        return longer;
    }

    private static int[] replaced(int[] row, int place, int x) {
        int[] other = row.clone();
        other[place] = x;
        return other;
    }

    private static int[] appended(int[] left, int[] right) {
        int[] both = Arrays.copyOf(left, left.length + right.length);
        System.arraycopy(right, 0, both, left.length, right.length);
        return both;
    }

    private static int[] merged(int[] left, int[] right) {
        int[] both = new int[left.length + right.length];
        int l = 0;
        int r = 0;
        for (int i = 0; i < both.length; i++) {
            if (l < left.length && (r >= right.length || left[l] <= right[r])) {
                both[i] = left[l];
                l++;
            } else if (r < right.length) {
                both[i] = right[r];
                r++;
            }
        }
        return both;
    }

    /**
     * Taking the largest tree that still fits is never worse: each size is twice the one below and
     * one more, so at most two of a size are taken, and smaller ones in their place would be as many
     * at least.
     */
    private static int fewestTrees(int elements) {
        int trees = 0;
        int left = elements;
        for (int tree = LARGEST_TREE; tree > 0; tree = tree / 2) {
            trees += left / tree;
            left = left % tree;
        }
        return trees;
    }

    /** Nothing in a version changes once it is made, so versions may share their rows. */
    private static final class Version {
        private final int kind;
        private final int form;
        private final int[] elements;

        /** Of a map the rising keys, keys[i] that of elements[i]; of all others an empty row. */
        private final int[] keys;

        private Version(int kind, int form, int[] elements, int[] keys) {
            this.kind = kind;
            this.form = form;
            this.elements = elements;
            this.keys = keys;
        }

        private Version with(int[] otherElements) {
            return new Version(kind, form, otherElements, keys);
        }
    }
}
