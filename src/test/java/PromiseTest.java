import java.util.NoSuchElementException;

/** For each promise of the document: ordinary inputs, the edges that it names, and wrong inputs. */
final class PromiseTest {
    private static final Class<IllegalArgumentException> ARGUMENT = IllegalArgumentException.class;
    private static final Class<IllegalStateException> STATE = IllegalStateException.class;
    private static final Class<NoSuchElementException> NO_ELEMENT = NoSuchElementException.class;
    private static final Class<IndexOutOfBoundsException> OUTSIDE = IndexOutOfBoundsException.class;

    private static final int QUEUE = 0;
    private static final int HEAP = 1;
    private static final int LIST = 2;
    private static final int MAP = 3;
    private static final int CHAIN = 4;
    private static final int[] FORMS = {3, 3, 2, 2, 1};
    private static final int[] NO_VERSIONS = {-1, 64, 1000, Integer.MIN_VALUE, Integer.MAX_VALUE};

    private static final Due due = new Due();

    public static void main(String[] args) {
        newObject();
        objectsAreApart();
        emptyOfEveryForm();
        emptyWithWrongArguments();
        addByKind();
        addUpToTheMostElements();
        addOfEqualAndExtremeElements();
        firstByKind();
        restByKind();
        joinOfChains();
        joinOfHeaps();
        joinOfOthers();
        joinUpToTheMostElements();
        bindAndValue();
        bindUpToTheMostElements();
        valueOfWrongKeys();
        update();
        atOfEveryKind();
        sizeOfEveryKind();
        partsOfLists();
        partsOfHeaps();
        partsOfOthers();
        kindOfEveryForm();
        wrongVersions();
        wrongKinds();
        fullObject();
        oldVersionsStay();
        due.end();
    }

    private static int made(LastingShapes x, int kind, int form, int... added) {
        int v = x.empty(kind, form);
        for (int element : added) {
            v = x.add(v, element);
        }
        return v;
    }

    /** A heap or chain of sevens; doubling needs few versions, so that 64 are enough for any size. */
    private static int sevens(LastingShapes x, int kind, int form, int size) {
        int one = made(x, kind, form, 7);
        int v = x.empty(kind, form);
        for (int bit = 64; bit > 0; bit /= 2) {
            v = x.join(v, v);
            if ((size & bit) != 0) {
                v = x.join(v, one);
            }
        }
        return v;
    }

    private static void newObject() {
        LastingShapes x = new LastingShapes();
        due.answers("a new object has no versions", 0, x::versions);
        due.fails("a new object has no version 0", ARGUMENT, () -> x.size(0));
    }

    private static void objectsAreApart() {
        LastingShapes x = new LastingShapes();
        LastingShapes y = new LastingShapes();
        x.empty(QUEUE, 0);
        due.answers("a version of one object", 1, x::versions);
        due.answers("is none of the other", 0, y::versions);
        due.answers("the other numbers from 0 too", 0, () -> y.empty(MAP, 1));
        due.answers("kind in the one", 0, () -> x.kind(0));
        due.answers("kind in the other", 31, () -> y.kind(0));
    }

    private static void emptyOfEveryForm() {
        LastingShapes x = new LastingShapes();
        int number = 0;
        for (int kind = 0; kind < FORMS.length; kind++) {
            for (int form = 0; form < FORMS[kind]; form++) {
                int k = kind;
                int f = form;
                due.answers("empty(" + k + ", " + f + ")", number, () -> x.empty(k, f));
                due.elements("empty(" + k + ", " + f + ")", x, number);
                number++;
                due.answers("versions after empty", number, x::versions);
            }
        }
        due.answers("the same once more is a new version", number, () -> x.empty(QUEUE, 0));
    }

    private static void emptyWithWrongArguments() {
        LastingShapes x = new LastingShapes();
        for (int kind = 0; kind < FORMS.length; kind++) {
            int k = kind;
            int[] wrong = {-1, FORMS[k], 10, Integer.MIN_VALUE, Integer.MAX_VALUE};
            for (int form : wrong) {
                due.fails("empty(" + k + ", " + form + ")", ARGUMENT, () -> x.empty(k, form));
            }
        }
        for (int kind : new int[] {-1, 5, Integer.MIN_VALUE, Integer.MAX_VALUE}) {
            due.fails("empty(" + kind + ", 0)", ARGUMENT, () -> x.empty(kind, 0));
        }
        due.answers("what throws makes nothing", 0, x::versions);
    }

    private static void addByKind() {
        LastingShapes x = new LastingShapes();
        for (int form = 0; form < 3; form++) {
            due.elements("queue", x, made(x, QUEUE, form, 5, -3, 9, 5), 5, -3, 9, 5);
            due.elements("heap", x, made(x, HEAP, form, 5, -3, 9, 5), -3, 5, 5, 9);
        }
        due.elements("list 0", x, made(x, LIST, 0, 5, -3, 9, 5), 5, 9, -3, 5);
        due.elements("list 1", x, made(x, LIST, 1, 5, -3, 9, 5), 5, 9, -3, 5);
        int chain = made(x, CHAIN, 0, 5, -3, 9, 5);
        due.elements("chain", x, chain, 5, -3, 9, 5);
        due.answers("add answers the new number", chain + 1, () -> x.add(0, 1));
        due.answers("and makes one version", chain + 2, x::versions);
        int map = x.empty(MAP, 0);
        due.fails("add to a map", ARGUMENT, () -> x.add(map, 1));
        due.answers("which makes none", map + 1, x::versions);
    }

    private static void addUpToTheMostElements() {
        LastingShapes x = new LastingShapes();
        int chain = sevens(x, CHAIN, 0, 99);
        int full = x.add(chain, 8);
        due.answers("100 elements may be", 100, () -> x.size(full));
        due.answers("the last of them", 8, () -> x.at(full, 99));
        int before = x.versions();
        due.fails("101 may not", STATE, () -> x.add(full, 8));
        due.answers("and none is made", before, x::versions);
        int less = x.rest(full);
        due.answers("there is room again", 100, () -> x.size(x.add(less, 8)));
        LastingShapes y = new LastingShapes();
        int heap = sevens(y, HEAP, 2, 100);
        due.fails("nor in a heap", STATE, () -> y.add(heap, 1));
    }

    private static void addOfEqualAndExtremeElements() {
        LastingShapes x = new LastingShapes();
        int least = Integer.MIN_VALUE;
        int most = Integer.MAX_VALUE;
        for (int form = 0; form < 3; form++) {
            int v = made(x, HEAP, form, 0, most, least, most, -1, least, 1);
            due.elements("heap of extremes", x, v, least, least, -1, 0, 1, most, most);
        }
        due.elements("queue of extremes", x, made(x, QUEUE, 1, most, least, most), most, least, most);
        due.elements("list of extremes", x, made(x, LIST, 0, most, least), least, most);
    }

    private static void firstByKind() {
        LastingShapes x = new LastingShapes();
        int[] due3 = {4, 2, 6, 0, 4};
        for (int kind = 0; kind < FORMS.length; kind++) {
            for (int form = 0; form < FORMS[kind] && kind != MAP; form++) {
                int bare = x.empty(kind, form);
                int v = made(x, kind, form, 4, 2, 6);
                int before = x.versions();
                due.answers("first of kind " + kind, due3[kind], () -> x.first(v));
                due.fails("first of none", NO_ELEMENT, () -> x.first(bare));
                due.answers("first makes no version", before, x::versions);
            }
        }
        int map = x.bind(x.empty(MAP, 0), 1, 1);
        due.fails("first of a map", ARGUMENT, () -> x.first(map));
        due.fails("first of an empty map", ARGUMENT, () -> x.first(map - 1));
    }

    private static void restByKind() {
        for (int kind = 0; kind < FORMS.length; kind++) {
            for (int form = 0; form < FORMS[kind] && kind != MAP; form++) {
                restOf(kind, form);
            }
        }
        LastingShapes x = new LastingShapes();
        int map = x.bind(x.empty(MAP, 1), 1, 1);
        due.fails("rest of a map", ARGUMENT, () -> x.rest(map));
        due.fails("rest of an empty map", ARGUMENT, () -> x.rest(map - 1));
    }

    private static void restOf(int kind, int form) {
        int[][] rows = {{4, 2, 6}, {2, 4, 6}, {6, 2, 4}, {}, {4, 2, 6}};
        int[] row = rows[kind];
        String told = "rest of kind " + kind + ", form " + form;
        LastingShapes x = new LastingShapes();
        int v = made(x, kind, form, 4, 2, 6);
        due.answers(told, v + 1, () -> x.rest(v));
        due.elements(told, x, v + 1, row[1], row[2]);
        due.answers(told, v + 2, () -> x.rest(v + 1));
        due.elements(told, x, v + 2, row[2]);
        due.answers(told, v + 3, () -> x.rest(v + 2));
        due.elements(told, x, v + 3);
        due.fails(told + ", of none", NO_ELEMENT, () -> x.rest(v + 3));
        due.answers(told + ": versions", v + 4, x::versions);
        due.answers(told + ": keeps kind and form", 10 * kind + form, () -> x.kind(v + 3));
        due.elements(told + ": the old one stays", x, v, row);
    }

    private static void joinOfChains() {
        LastingShapes x = new LastingShapes();
        int left = made(x, CHAIN, 0, 3, 1, 2);
        int right = made(x, CHAIN, 0, 9, 0);
        int none = x.empty(CHAIN, 0);
        due.answers("join answers the new number", none + 1, () -> x.join(left, right));
        due.elements("those of v first", x, none + 1, 3, 1, 2, 9, 0);
        due.elements("the other way", x, x.join(right, left), 9, 0, 3, 1, 2);
        due.elements("with itself", x, x.join(left, left), 3, 1, 2, 3, 1, 2);
        due.elements("with none", x, x.join(left, none), 3, 1, 2);
        due.elements("none with it", x, x.join(none, left), 3, 1, 2);
        int nothing = x.join(none, none);
        due.elements("none with none", x, nothing);
        due.answers("is a chain", 40, () -> x.kind(nothing));
        int longer = x.add(x.join(left, right), 7);
        due.elements("a joined one, added to", x, longer, 3, 1, 2, 9, 0, 7);
        due.elements("and taken from", x, x.rest(longer), 1, 2, 9, 0, 7);
        due.elements("v stays", x, left, 3, 1, 2);
        due.elements("w stays", x, right, 9, 0);
    }

    private static void joinOfHeaps() {
        for (int form = 0; form < 3; form++) {
            LastingShapes x = new LastingShapes();
            int left = made(x, HEAP, form, 5, 1, 5);
            int right = made(x, HEAP, form, 7, 5, -2, 9);
            int none = x.empty(HEAP, form);
            int kind = 10 + form;
            int both = x.join(left, right);
            due.elements("joined heap", x, both, -2, 1, 5, 5, 5, 7, 9);
            due.answers("its kind and form", kind, () -> x.kind(both));
            due.elements("the other way", x, x.join(right, left), -2, 1, 5, 5, 5, 7, 9);
            due.elements("with itself", x, x.join(left, left), 1, 1, 5, 5, 5, 5);
            due.elements("with none", x, x.join(left, none), 1, 5, 5);
            due.elements("none with it", x, x.join(none, left), 1, 5, 5);
            due.elements("none with none", x, x.join(none, none));
            due.elements("rest of it", x, x.rest(both), 1, 5, 5, 5, 7, 9);
            due.elements("v stays", x, left, 1, 5, 5);
            due.elements("w stays", x, right, -2, 5, 7, 9);
            int least = made(x, HEAP, form, Integer.MIN_VALUE, 0);
            int most = made(x, HEAP, form, Integer.MAX_VALUE, 1);
            due.elements("extremes", x, x.join(most, least), Integer.MIN_VALUE, 0, 1, Integer.MAX_VALUE);
        }
    }

    private static void joinOfOthers() {
        LastingShapes x = new LastingShapes();
        for (int kind = 0; kind < FORMS.length; kind++) {
            for (int form = 0; form < FORMS[kind]; form++) {
                x.empty(kind, form);
            }
        }
        int count = x.versions();
        for (int v = 0; v < count; v++) {
            for (int w = 0; w < count; w++) {
                int left = v;
                int right = w;
                boolean joined = x.kind(v) == x.kind(w) && (x.kind(v) / 10 == HEAP || x.kind(v) == 40);
                if (!joined) {
                    String told = "join of kinds " + x.kind(v) + " and " + x.kind(w);
                    due.fails(told, ARGUMENT, () -> x.join(left, right));
                }
            }
        }
        due.answers("what throws makes nothing", count, x::versions);
    }

    private static void joinUpToTheMostElements() {
        for (int kind : new int[] {HEAP, CHAIN}) {
            LastingShapes x = new LastingShapes();
            int fifty = sevens(x, kind, 0, 50);
            int one = x.add(x.empty(kind, 0), 7);
            int none = x.empty(kind, 0);
            int full = x.join(fifty, fifty);
            due.answers("100 joined elements may be", 100, () -> x.size(full));
            due.answers("also with none", 100, () -> x.size(x.join(full, none)));
            int more = x.add(fifty, 7);
            int before = x.versions();
            due.fails("101 may not", STATE, () -> x.join(fifty, more));
            due.fails("nor 100 and 1", STATE, () -> x.join(full, one));
            due.fails("nor 200", STATE, () -> x.join(full, full));
            due.answers("what throws makes nothing", before, x::versions);
        }
    }

    private static void bindAndValue() {
        for (int form = 0; form < 2; form++) {
            LastingShapes x = new LastingShapes();
            int none = x.empty(MAP, form);
            due.answers("bind answers the new number", 1, () -> x.bind(none, 9, 90));
            int two = x.bind(x.bind(none, 255, -1), 0, 1);
            due.elements("by rising keys", x, two, 1, -1);
            int three = x.bind(two, 100, 0);
            due.elements("between", x, three, 1, 0, -1);
            int other = x.bind(three, 100, 5);
            due.elements("in place of one", x, other, 1, 5, -1);
            due.answers("value of key 0", 1, () -> x.value(other, 0));
            due.answers("value of key 100", 5, () -> x.value(other, 100));
            due.answers("value of key 255", -1, () -> x.value(other, 255));
            due.answers("the old value stays", 0, () -> x.value(three, 100));
            due.elements("the old map stays", x, three, 1, 0, -1);
            due.fails("no such key yet", NO_ELEMENT, () -> x.value(two, 100));
            int kind = 30 + form;
            due.answers("its kind and form", kind, () -> x.kind(other));
            int before = x.versions();
            for (int key : new int[] {-1, 256, Integer.MIN_VALUE, Integer.MAX_VALUE}) {
                due.fails("bind of key " + key, ARGUMENT, () -> x.bind(other, key, 1));
            }
            due.answers("what throws makes nothing", before, x::versions);
            due.elements("the same value again", x, x.bind(other, 0, 1), 1, 5, -1);
        }
    }

    /** A map of 100 needs 101 versions, so only the limit of versions can be reached. */
    private static void bindUpToTheMostElements() {
        LastingShapes x = new LastingShapes();
        int v = x.empty(MAP, 0);
        while (x.versions() < 64) {
            v = x.bind(v, 255 - v, v);
        }
        int full = v;
        due.answers("as many keys as versions leave room for", 63, () -> x.size(full));
        due.answers("the least key came last", 62, () -> x.at(full, 0));
        due.fails("no version more", STATE, () -> x.bind(full, 0, 1));
        due.fails("not for a key that it has", STATE, () -> x.bind(full, 255, 1));
        due.fails("a wrong key comes first", ARGUMENT, () -> x.bind(full, 256, 1));
    }

    private static void valueOfWrongKeys() {
        LastingShapes x = new LastingShapes();
        int none = x.empty(MAP, 0);
        int map = x.bind(x.bind(none, 0, 5), 255, 6);
        for (int key : new int[] {-1, 1, 254, 256, Integer.MIN_VALUE, Integer.MAX_VALUE}) {
            due.fails("value of key " + key, NO_ELEMENT, () -> x.value(map, key));
        }
        due.fails("value in an empty map", NO_ELEMENT, () -> x.value(none, 0));
        due.answers("value makes no version", 3, x::versions);
    }

    private static void update() {
        for (int form = 0; form < 2; form++) {
            LastingShapes x = new LastingShapes();
            int v = made(x, LIST, form, 4, 3, 2, 1);
            due.answers("update answers the new number", v + 1, () -> x.update(v, 0, 9));
            due.elements("the first", x, v + 1, 9, 2, 3, 4);
            due.elements("the last", x, x.update(v, 3, 9), 1, 2, 3, 9);
            due.elements("between", x, x.update(v + 1, 2, -9), 9, 2, -9, 4);
            due.elements("the old one stays", x, v, 1, 2, 3, 4);
            int kind = 20 + form;
            due.answers("its kind and form", kind, () -> x.kind(v + 1));
            int before = x.versions();
            for (int i : new int[] {-1, 4, 100, Integer.MIN_VALUE, Integer.MAX_VALUE}) {
                due.fails("update at " + i, OUTSIDE, () -> x.update(v, i, 1));
            }
            due.fails("update of none", OUTSIDE, () -> x.update(0, 0, 1));
            due.answers("what throws makes nothing", before, x::versions);
        }
    }

    private static void atOfEveryKind() {
        LastingShapes x = new LastingShapes();
        int[][] rows = {{4, 2, 6}, {2, 4, 6}, {6, 2, 4}, {}, {4, 2, 6}};
        for (int kind = 0; kind < FORMS.length; kind++) {
            for (int form = 0; form < FORMS[kind] && kind != MAP; form++) {
                due.elements("at of kind " + kind, x, made(x, kind, form, 4, 2, 6), rows[kind]);
            }
        }
        int map = x.bind(x.bind(x.bind(x.empty(MAP, 0), 7, 4), 3, 6), 5, 2);
        due.elements("at of a map", x, map, 6, 2, 4);
        int before = x.versions();
        due.fails("far below", OUTSIDE, () -> x.at(map, Integer.MIN_VALUE));
        due.fails("far above", OUTSIDE, () -> x.at(map, Integer.MAX_VALUE));
        due.answers("at makes no version", before, x::versions);
    }

    private static void sizeOfEveryKind() {
        for (int kind = 0; kind < FORMS.length; kind++) {
            for (int form = 0; form < FORMS[kind]; form++) {
                LastingShapes x = new LastingShapes();
                int v = x.empty(kind, form);
                for (int i = 0; i < 20; i++) {
                    int size = i;
                    int old = v;
                    due.answers("size of kind " + kind, size, () -> x.size(old));
                    v = kind == MAP ? x.bind(v, i, 0) : x.add(v, 0);
                }
                due.answers("size makes no version", 21, x::versions);
            }
        }
    }

    private static void partsOfLists() {
        LastingShapes x = new LastingShapes();
        LastingShapes y = new LastingShapes();
        x.empty(LIST, 0);
        y.empty(LIST, 1);
        int[] fewest = fewestTrees(63);
        for (int i = 0; i < 64; i++) {
            int v = i;
            due.answers("parts of a list 0 of " + v, fewest[v], () -> x.parts(v));
            due.answers("parts of a list 1 of " + v, bits(v), () -> y.parts(v));
            if (v < 63) {
                x.add(v, 1);
                y.add(v, 1);
            }
        }
        due.answers("6 are 3 and 3", 2, () -> x.parts(6));
        due.answers("5 are 3, 1 and 1", 3, () -> x.parts(5));
        due.answers("62 are 31 and 31", 2, () -> x.parts(62));
        due.answers("63 are one", 1, () -> x.parts(63));
        due.answers("none", 0, () -> x.parts(0));
    }

    /** By trying all, not by taking the largest first. */
    private static int[] fewestTrees(int most) {
        int[] fewest = new int[most + 1];
        for (int n = 1; n <= most; n++) {
            fewest[n] = n;
            for (int tree = 1; tree <= n; tree = 2 * tree + 1) {
                fewest[n] = Math.min(fewest[n], fewest[n - tree] + 1);
            }
        }
        return fewest;
    }

    private static int bits(int n) {
        return Integer.toBinaryString(n).replace("0", "").length();
    }

    private static void partsOfHeaps() {
        for (int size = 0; size <= 100; size++) {
            int n = size;
            LastingShapes x = new LastingShapes();
            int plain = sevens(x, HEAP, 0, size);
            int binary = sevens(x, HEAP, 1, size);
            int other = sevens(x, HEAP, 2, size);
            due.answers("parts of a heap 0 of " + n, n == 0 ? 0 : 1, () -> x.parts(plain));
            due.answers("parts of a heap 1 of " + n, bits(n), () -> x.parts(binary));
            due.answers("parts of a heap 2 of " + n, n == 0 ? 0 : 1, () -> x.parts(other));
        }
    }

    private static void partsOfOthers() {
        for (int kind : new int[] {QUEUE, MAP, CHAIN}) {
            for (int form = 0; form < FORMS[kind]; form++) {
                LastingShapes x = new LastingShapes();
                int v = x.empty(kind, form);
                for (int i = 0; i < 16; i++) {
                    int old = v;
                    int want = i == 0 ? 0 : 1;
                    due.answers("parts of kind " + kind + " of " + i, want, () -> x.parts(old));
                    v = kind == MAP ? x.bind(v, 2 * i, 0) : x.add(v, 0);
                }
                due.answers("parts makes no version", 17, x::versions);
            }
        }
    }

    private static void kindOfEveryForm() {
        for (int kind = 0; kind < FORMS.length; kind++) {
            for (int form = 0; form < FORMS[kind]; form++) {
                LastingShapes x = new LastingShapes();
                int none = x.empty(kind, form);
                int one = kind == MAP ? x.bind(none, 1, 1) : x.add(none, 1);
                int want = 10 * kind + form;
                due.answers("kind of an empty one", want, () -> x.kind(none));
                due.answers("kind of one with an element", want, () -> x.kind(one));
                due.answers("kind makes no version", 2, x::versions);
            }
        }
    }

    private static void wrongVersions() {
        LastingShapes x = new LastingShapes();
        int chain = made(x, CHAIN, 0, 1);
        int next = x.versions();
        for (int wrong : NO_VERSIONS) {
            everyCallRefuses(x, wrong, chain);
        }
        everyCallRefuses(x, next, chain);
        due.answers("what throws makes nothing", next, x::versions);
    }

    private static void everyCallRefuses(LastingShapes x, int wrong, int chain) {
        due.fails("add(" + wrong + ")", ARGUMENT, () -> x.add(wrong, 1));
        due.fails("first(" + wrong + ")", ARGUMENT, () -> x.first(wrong));
        due.fails("rest(" + wrong + ")", ARGUMENT, () -> x.rest(wrong));
        due.fails("join(" + wrong + ", v)", ARGUMENT, () -> x.join(wrong, chain));
        due.fails("join(v, " + wrong + ")", ARGUMENT, () -> x.join(chain, wrong));
        due.fails("join(" + wrong + ", same)", ARGUMENT, () -> x.join(wrong, wrong));
        due.fails("bind(" + wrong + ")", ARGUMENT, () -> x.bind(wrong, 1, 1));
        due.fails("value(" + wrong + ")", ARGUMENT, () -> x.value(wrong, 1));
        due.fails("update(" + wrong + ")", ARGUMENT, () -> x.update(wrong, 0, 1));
        due.fails("at(" + wrong + ")", ARGUMENT, () -> x.at(wrong, 0));
        due.fails("at(" + wrong + ") outside", ARGUMENT, () -> x.at(wrong, -1));
        due.fails("size(" + wrong + ")", ARGUMENT, () -> x.size(wrong));
        due.fails("parts(" + wrong + ")", ARGUMENT, () -> x.parts(wrong));
        due.fails("kind(" + wrong + ")", ARGUMENT, () -> x.kind(wrong));
    }

    private static void wrongKinds() {
        LastingShapes x = new LastingShapes();
        for (int kind = 0; kind < FORMS.length; kind++) {
            int v = kind == MAP ? x.bind(x.empty(MAP, 0), 0, 1) : made(x, kind, 0, 1);
            if (kind != MAP) {
                due.fails("bind of kind " + kind, ARGUMENT, () -> x.bind(v, 0, 1));
                due.fails("value of kind " + kind, ARGUMENT, () -> x.value(v, 0));
                due.fails("value of kind " + kind + ", wrong key", ARGUMENT, () -> x.value(v, -1));
            }
            if (kind != LIST) {
                due.fails("update of kind " + kind, ARGUMENT, () -> x.update(v, 0, 1));
                due.fails("update of kind " + kind + " outside", ARGUMENT, () -> x.update(v, 5, 1));
            }
        }
        due.answers("what throws makes nothing", 10, x::versions);
    }

    /** With 64 versions, what is wrong with an argument still comes first, what is missing later. */
    private static void fullObject() {
        LastingShapes x = new LastingShapes();
        int list = made(x, LIST, 0, 1);
        int map = x.bind(x.empty(MAP, 0), 5, 50);
        int heap = made(x, HEAP, 1, 1);
        int queue = x.empty(QUEUE, 2);
        while (x.versions() < 63) {
            x.empty(CHAIN, 0);
        }
        due.answers("the last version is 63", 63, () -> x.empty(QUEUE, 0));
        due.fails("empty", STATE, () -> x.empty(QUEUE, 0));
        due.fails("empty of no kind", ARGUMENT, () -> x.empty(5, 0));
        due.fails("empty of no form", ARGUMENT, () -> x.empty(0, 3));
        due.fails("add", STATE, () -> x.add(queue, 1));
        due.fails("add to a map", ARGUMENT, () -> x.add(map, 1));
        due.fails("rest", STATE, () -> x.rest(list));
        due.fails("rest of none", STATE, () -> x.rest(queue));
        due.fails("rest of a map", ARGUMENT, () -> x.rest(map));
        due.fails("join", STATE, () -> x.join(heap, heap));
        due.fails("join of two kinds", ARGUMENT, () -> x.join(heap, 63));
        due.fails("bind", STATE, () -> x.bind(map, 6, 1));
        due.fails("bind in place", STATE, () -> x.bind(map, 5, 1));
        due.fails("bind of a wrong key", ARGUMENT, () -> x.bind(map, -1, 1));
        due.fails("update", STATE, () -> x.update(list, 0, 1));
        due.fails("update outside", STATE, () -> x.update(list, 1, 1));
        due.fails("update of a heap", ARGUMENT, () -> x.update(heap, 0, 1));
        due.fails("version 64", ARGUMENT, () -> x.add(64, 1));
        due.answers("first goes on", 1, () -> x.first(list));
        due.fails("first of none", NO_ELEMENT, () -> x.first(queue));
        due.answers("value goes on", 50, () -> x.value(map, 5));
        due.answers("at goes on", 1, () -> x.at(heap, 0));
        due.answers("64 versions", 64, x::versions);
    }

    /** Two new versions from each old one must neither disturb it nor one another. */
    private static void oldVersionsStay() {
        LastingShapes x = new LastingShapes();
        int queue = made(x, QUEUE, 1, 1, 2);
        int one = x.add(queue, 3);
        int other = x.add(queue, 4);
        int less = x.rest(queue);
        due.elements("old queue", x, queue, 1, 2);
        due.elements("one new queue", x, one, 1, 2, 3);
        due.elements("other new queue", x, other, 1, 2, 4);
        due.elements("less", x, less, 2);
        int map = x.bind(x.empty(MAP, 1), 5, 50);
        int before = x.bind(map, 4, 40);
        int behind = x.bind(map, 6, 60);
        int same = x.bind(map, 5, 51);
        due.elements("old map", x, map, 50);
        due.elements("with a key before", x, before, 40, 50);
        due.elements("with a key behind", x, behind, 50, 60);
        due.elements("with another value", x, same, 51);
        due.fails("no key of another version", NO_ELEMENT, () -> x.value(same, 4));
        due.answers("the old value", 50, () -> x.value(before, 5));
    }
}
