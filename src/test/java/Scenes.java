import java.util.Arrays;

/** Objects in states that boundaries are tested in; each call makes a new one, always the same. */
final class Scenes {
    static final int QUEUE = 0;
    static final int HEAP = 1;
    static final int LIST = 2;
    static final int MAP = 3;
    static final int CHAIN = 4;

    /** How many forms each kind has. */
    static final int[] FORMS = {3, 3, 2, 2, 1};

    /** The elements of two(kind, form), by kind. */
    private static final int[][] ROWS_OF_TWO = {{5, -3}, {-3, 5}, {-3, 5}, {-3, 5}, {5, -3}};

    private Scenes() {
    }

    /** Something that is done for one kind and form. */
    interface ForKind {
        void run(int kind, int form);
    }

    static void eachKind(ForKind what) {
        for (int kind = 0; kind < FORMS.length; kind++) {
            for (int form = 0; form < FORMS[kind]; form++) {
                what.run(kind, form);
            }
        }
    }

    static Counted none() {
        return new Counted();
    }

    /** Three versions of every kind and form, 33 in all: bare(), one() and two() are their numbers. */
    static Counted some() {
        Counted x = new Counted();
        eachKind((kind, form) -> {
            int bare = x.empty(kind, form);
            int one = withElement(x, bare, kind, 255, 5);
            withElement(x, one, kind, 0, -3);
        });
        return x;
    }

    /** The key is for maps alone. */
    static int withElement(Counted x, int v, int kind, int key, int element) {
        return kind == MAP ? x.bind(v, key, element) : x.add(v, element);
    }

    /** Without elements. */
    static int bare(int kind, int form) {
        int formsBefore = Arrays.stream(FORMS, 0, kind).sum();
        return 3 * (formsBefore + form);
    }

    /** With the element 5; of a map for key 255. */
    static int one(int kind, int form) {
        return bare(kind, form) + 1;
    }

    /** With the elements 5 and -3; of a map for keys 255 and 0. */
    static int two(int kind, int form) {
        return bare(kind, form) + 2;
    }

    static int[] rowOfTwo(int kind) {
        return ROWS_OF_TWO[kind].clone();
    }

    /** As some(), with so many versions; those behind are chains without elements. */
    static Counted filled(int versions) {
        Counted x = some();
        int made = 33;
        while (made < versions) {
            x.empty(CHAIN, 0);
            made++;
        }
        return x;
    }

    /** A version with some elements, of any kind, all made by adding: as many versions and one more. */
    static Counted line(int kind, int form, int size) {
        Counted x = new Counted();
        int v = x.empty(kind, form);
        for (int i = 0; i < size; i++) {
            v = withElement(x, v, kind, 255 - i, i);
        }
        return x;
    }

    /** Heaps or chains: the last version but one has so many sevens, the last so many eights. */
    static Counted sevensAndEights(int kind, int form, int sevens, int eights) {
        Counted x = new Counted();
        int bare = x.empty(kind, form);
        int left = same(x, bare, 7, sevens);
        int right = same(x, bare, 8, eights);
        x.join(left, bare);
        x.join(right, bare);
        return x;
    }

    /** Doubling needs few versions, so that 64 are enough for any size. */
    static int same(Counted x, int bare, int element, int size) {
        int one = x.add(bare, element);
        int v = bare;
        for (int bit = Integer.highestOneBit(size); bit > 0; bit /= 2) {
            v = x.join(v, v);
            if ((size & bit) != 0) {
                v = x.join(v, one);
            }
        }
        return v;
    }
}
