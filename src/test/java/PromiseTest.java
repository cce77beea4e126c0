import java.util.NoSuchElementException;

/**
 * For each promise of the document: ordinary inputs, and some wrong ones. All limits stand in
 * BoundaryTest, all exceptions and their order in ExceptionTest.
 */
final class PromiseTest {
    private static final Class<IllegalArgumentException> ARGUMENT = IllegalArgumentException.class;
    private static final Class<NoSuchElementException> NO_ELEMENT = NoSuchElementException.class;
    private static final Class<IndexOutOfBoundsException> OUTSIDE = IndexOutOfBoundsException.class;

    private static final int QUEUE = Scenes.QUEUE;
    private static final int HEAP = Scenes.HEAP;
    private static final int LIST = Scenes.LIST;
    private static final int MAP = Scenes.MAP;
    private static final int CHAIN = Scenes.CHAIN;
    private static final int[] FORMS = Scenes.FORMS;

    private static final Due due = new Due();

    public static void main(String[] args) {
        newObject();
        objectsAreApart();
        emptyOfEveryForm();
        addByKind();
        firstByKind();
        restByKind();
        joinOfChains();
        joinOfHeaps();
        bindAndValue();
        update();
        atOfEveryKind();
        sizeOfEveryKind();
        partsOfLists();
        partsOfHeaps();
        partsOfOthers();
        kindOfEveryForm();
        versionsAfterEveryCall();
        oldVersionsStay();
        exampleOfReadme();
        due.end();
    }

    private static int made(Counted x, int kind, int form, int... added) {
        int v = x.empty(kind, form);
        for (int element : added) {
            v = x.add(v, element);
        }
        return v;
    }

    /** Promise 1. */
    private static void newObject() {
        Counted x = new Counted();
        due.answers("a new object has no versions", 0, x::versions);
        due.fails("a new object has no version 0", ARGUMENT, () -> x.size(0));
    }

    /** Promise 1: what one object has, another has not. */
    private static void objectsAreApart() {
        Counted x = new Counted();
        Counted y = new Counted();
        x.empty(QUEUE, 0);
        due.answers("a version of one object", 1, x::versions);
        due.answers("is none of the other", 0, y::versions);
        due.answers("the other numbers from 0 too", 0, () -> y.empty(MAP, 1));
        due.answers("kind in the one", 0, () -> x.kind(0));
        due.answers("kind in the other", 31, () -> y.kind(0));
    }

    /** Promise 2. */
    private static void emptyOfEveryForm() {
        Counted x = new Counted();
        int number = 0;
        for (int kind = 0; kind < FORMS.length; kind++) {
            for (int form = 0; form < FORMS[kind]; form++) {
                int k = kind;
                int f = form;
                due.answers("empty(" + k + ", " + f + ")", number, () -> x.empty(k, f));
                due.elements("empty(" + k + ", " + f + ")", x, number);
                number++;
                due.answers("versions after empty", number, x::versions);
            }
        }
        due.answers("the same once more is a new version", number, () -> x.empty(QUEUE, 0));
    }

    /** Promise 3. */
    private static void addByKind() {
        Counted x = new Counted();
        for (int form = 0; form < 3; form++) {
            due.elements("queue", x, made(x, QUEUE, form, 5, -3, 9, 5), 5, -3, 9, 5);
            due.elements("heap", x, made(x, HEAP, form, 5, -3, 9, 5), -3, 5, 5, 9);
        }
        due.elements("list 0", x, made(x, LIST, 0, 5, -3, 9, 5), 5, 9, -3, 5);
        due.elements("list 1", x, made(x, LIST, 1, 5, -3, 9, 5), 5, 9, -3, 5);
        int chain = made(x, CHAIN, 0, 5, -3, 9, 5);
        due.elements("chain", x, chain, 5, -3, 9, 5);
        due.answers("add answers the new number", chain + 1, () -> x.add(0, 1));
        due.answers("and makes one version", chain + 2, x::versions);
        int map = x.empty(MAP, 0);
        due.fails("add to a map", ARGUMENT, () -> x.add(map, 1));
        due.answers("which makes none", map + 1, x::versions);
    }

    /** Promise 4. */
    private static void firstByKind() {
        Counted x = new Counted();
        int[] due3 = {4, 2, 6, 0, 4};
        for (int kind = 0; kind < FORMS.length; kind++) {
            for (int form = 0; form < FORMS[kind] && kind != MAP; form++) {
                int bare = x.empty(kind, form);
                int v = made(x, kind, form, 4, 2, 6);
                int before = x.versions();
                due.answers("first of kind " + kind, due3[kind], () -> x.first(v));
                due.fails("first of none", NO_ELEMENT, () -> x.first(bare));
                due.answers("first makes no version", before, x::versions);
            }
        }
        int map = x.bind(x.empty(MAP, 0), 1, 1);
        due.fails("first of a map", ARGUMENT, () -> x.first(map));
        due.fails("first of an empty map", ARGUMENT, () -> x.first(map - 1));
    }

    /** Promise 5. */
    private static void restByKind() {
        for (int kind = 0; kind < FORMS.length; kind++) {
            for (int form = 0; form < FORMS[kind] && kind != MAP; form++) {
                restOf(kind, form);
            }
        }
        Counted x = new Counted();
        int map = x.bind(x.empty(MAP, 1), 1, 1);
        due.fails("rest of a map", ARGUMENT, () -> x.rest(map));
        due.fails("rest of an empty map", ARGUMENT, () -> x.rest(map - 1));
    }

    private static void restOf(int kind, int form) {
        int[][] rows = {{4, 2, 6}, {2, 4, 6}, {6, 2, 4}, {}, {4, 2, 6}};
        int[] row = rows[kind];
        String told = "rest of kind " + kind + ", form " + form;
        Counted x = new Counted();
        int v = made(x, kind, form, 4, 2, 6);
        due.answers(told, v + 1, () -> x.rest(v));
        due.elements(told, x, v + 1, row[1], row[2]);
        due.answers(told, v + 2, () -> x.rest(v + 1));
        due.elements(told, x, v + 2, row[2]);
        due.answers(told, v + 3, () -> x.rest(v + 2));
        due.elements(told, x, v + 3);
        due.fails(told + ", of none", NO_ELEMENT, () -> x.rest(v + 3));
        due.answers(told + ": versions", v + 4, x::versions);
        due.answers(told + ": keeps kind and form", 10 * kind + form, () -> x.kind(v + 3));
        due.elements(told + ": the old one stays", x, v, row);
    }

    /** Promise 6. */
    private static void joinOfChains() {
        Counted x = new Counted();
        int left = made(x, CHAIN, 0, 3, 1, 2);
        int right = made(x, CHAIN, 0, 9, 0);
        int none = x.empty(CHAIN, 0);
        due.answers("join answers the new number", none + 1, () -> x.join(left, right));
        due.elements("those of v first", x, none + 1, 3, 1, 2, 9, 0);
        due.elements("the other way", x, x.join(right, left), 9, 0, 3, 1, 2);
        due.elements("with itself", x, x.join(left, left), 3, 1, 2, 3, 1, 2);
        due.elements("with none", x, x.join(left, none), 3, 1, 2);
        due.elements("none with it", x, x.join(none, left), 3, 1, 2);
        int nothing = x.join(none, none);
        due.elements("none with none", x, nothing);
        due.answers("is a chain", 40, () -> x.kind(nothing));
        int longer = x.add(x.join(left, right), 7);
        due.elements("a joined one, added to", x, longer, 3, 1, 2, 9, 0, 7);
        due.elements("and taken from", x, x.rest(longer), 1, 2, 9, 0, 7);
        due.elements("v stays", x, left, 3, 1, 2);
        due.elements("w stays", x, right, 9, 0);
    }

    /** Promise 6. */
    private static void joinOfHeaps() {
        for (int form = 0; form < 3; form++) {
            Counted x = new Counted();
            int left = made(x, HEAP, form, 5, 1, 5);
            int right = made(x, HEAP, form, 7, 5, -2, 9);
            int none = x.empty(HEAP, form);
            int kind = 10 + form;
            int both = x.join(left, right);
            due.elements("joined heap", x, both, -2, 1, 5, 5, 5, 7, 9);
            due.answers("its kind and form", kind, () -> x.kind(both));
            due.elements("the other way", x, x.join(right, left), -2, 1, 5, 5, 5, 7, 9);
            due.elements("with itself", x, x.join(left, left), 1, 1, 5, 5, 5, 5);
            due.elements("with none", x, x.join(left, none), 1, 5, 5);
            due.elements("none with it", x, x.join(none, left), 1, 5, 5);
            due.elements("none with none", x, x.join(none, none));
            due.elements("rest of it", x, x.rest(both), 1, 5, 5, 5, 7, 9);
            due.elements("v stays", x, left, 1, 5, 5);
            due.elements("w stays", x, right, -2, 5, 7, 9);
            int least = made(x, HEAP, form, Integer.MIN_VALUE, 0);
            int most = made(x, HEAP, form, Integer.MAX_VALUE, 1);
            due.elements("extremes", x, x.join(most, least), Integer.MIN_VALUE, 0, 1, Integer.MAX_VALUE);
        }
    }

    /** Promises 7 and 8. */
    private static void bindAndValue() {
        for (int form = 0; form < 2; form++) {
            Counted x = new Counted();
            int none = x.empty(MAP, form);
            due.answers("bind answers the new number", 1, () -> x.bind(none, 9, 90));
            int two = x.bind(x.bind(none, 255, -1), 0, 1);
            due.elements("by rising keys", x, two, 1, -1);
            int three = x.bind(two, 100, 0);
            due.elements("between", x, three, 1, 0, -1);
            int other = x.bind(three, 100, 5);
            due.elements("in place of one", x, other, 1, 5, -1);
            due.answers("value of key 0", 1, () -> x.value(other, 0));
            due.answers("value of key 100", 5, () -> x.value(other, 100));
            due.answers("value of key 255", -1, () -> x.value(other, 255));
            due.answers("the old value stays", 0, () -> x.value(three, 100));
            due.elements("the old map stays", x, three, 1, 0, -1);
            due.fails("no such key yet", NO_ELEMENT, () -> x.value(two, 100));
            int kind = 30 + form;
            due.answers("its kind and form", kind, () -> x.kind(other));
            int before = x.versions();
            for (int key : new int[] {-1, 256, Integer.MIN_VALUE, Integer.MAX_VALUE}) {
                due.fails("bind of key " + key, ARGUMENT, () -> x.bind(other, key, 1));
            }
            due.answers("what throws makes nothing", before, x::versions);
            due.elements("the same value again", x, x.bind(other, 0, 1), 1, 5, -1);
        }
    }

    /** Promise 9. */
    private static void update() {
        for (int form = 0; form < 2; form++) {
            Counted x = new Counted();
            int v = made(x, LIST, form, 4, 3, 2, 1);
            due.answers("update answers the new number", v + 1, () -> x.update(v, 0, 9));
            due.elements("the first", x, v + 1, 9, 2, 3, 4);
            due.elements("the last", x, x.update(v, 3, 9), 1, 2, 3, 9);
            due.elements("between", x, x.update(v + 1, 2, -9), 9, 2, -9, 4);
            due.elements("the old one stays", x, v, 1, 2, 3, 4);
            int kind = 20 + form;
            due.answers("its kind and form", kind, () -> x.kind(v + 1));
            int before = x.versions();
            for (int i : new int[] {-1, 4, 100, Integer.MIN_VALUE, Integer.MAX_VALUE}) {
                due.fails("update at " + i, OUTSIDE, () -> x.update(v, i, 1));
            }
            due.fails("update of none", OUTSIDE, () -> x.update(0, 0, 1));
            due.answers("what throws makes nothing", before, x::versions);
        }
    }

    /** Promise 10. */
    private static void atOfEveryKind() {
        Counted x = new Counted();
        int[][] rows = {{4, 2, 6}, {2, 4, 6}, {6, 2, 4}, {}, {4, 2, 6}};
        for (int kind = 0; kind < FORMS.length; kind++) {
            for (int form = 0; form < FORMS[kind] && kind != MAP; form++) {
                due.elements("at of kind " + kind, x, made(x, kind, form, 4, 2, 6), rows[kind]);
            }
        }
        int map = x.bind(x.bind(x.bind(x.empty(MAP, 0), 7, 4), 3, 6), 5, 2);
        due.elements("at of a map", x, map, 6, 2, 4);
        int before = x.versions();
        due.fails("far below", OUTSIDE, () -> x.at(map, Integer.MIN_VALUE));
        due.fails("far above", OUTSIDE, () -> x.at(map, Integer.MAX_VALUE));
        due.answers("at makes no version", before, x::versions);
    }

    /** Promise 11. */
    private static void sizeOfEveryKind() {
        for (int kind = 0; kind < FORMS.length; kind++) {
            for (int form = 0; form < FORMS[kind]; form++) {
                Counted x = new Counted();
                int v = x.empty(kind, form);
                for (int i = 0; i < 20; i++) {
                    int size = i;
                    int old = v;
                    due.answers("size of kind " + kind, size, () -> x.size(old));
                    v = Scenes.withElement(x, v, kind, i, 0);
                }
                due.answers("size makes no version", 21, x::versions);
            }
        }
    }

    /** Promise 12. */
    private static void partsOfLists() {
        Counted x = new Counted();
        Counted y = new Counted();
        x.empty(LIST, 0);
        y.empty(LIST, 1);
        int[] fewest = fewestTrees(63);
        for (int i = 0; i < 64; i++) {
            int v = i;
            due.answers("parts of a list 0 of " + v, fewest[v], () -> x.parts(v));
            due.answers("parts of a list 1 of " + v, bits(v), () -> y.parts(v));
            if (v < 63) {
                x.add(v, 1);
                y.add(v, 1);
            }
        }
        due.answers("6 are 3 and 3", 2, () -> x.parts(6));
        due.answers("5 are 3, 1 and 1", 3, () -> x.parts(5));
        due.answers("62 are 31 and 31", 2, () -> x.parts(62));
        due.answers("63 are one", 1, () -> x.parts(63));
        due.answers("none", 0, () -> x.parts(0));
    }

    /** By trying all, not by taking the largest first. */
    private static int[] fewestTrees(int most) {
        int[] fewest = new int[most + 1];
        for (int n = 1; n <= most; n++) {
            fewest[n] = n;
            for (int tree = 1; tree <= n; tree = 2 * tree + 1) {
                fewest[n] = Math.min(fewest[n], fewest[n - tree] + 1);
            }
        }
        return fewest;
    }

    private static int bits(int n) {
        return Integer.toBinaryString(n).replace("0", "").length();
    }

    /** Promise 12. */
    private static void partsOfHeaps() {
        for (int size = 0; size <= 100; size++) {
            int n = size;
            Counted x = new Counted();
            int plain = Scenes.same(x, x.empty(HEAP, 0), 7, size);
            int binary = Scenes.same(x, x.empty(HEAP, 1), 7, size);
            int other = Scenes.same(x, x.empty(HEAP, 2), 7, size);
            due.answers("parts of a heap 0 of " + n, n == 0 ? 0 : 1, () -> x.parts(plain));
            due.answers("parts of a heap 1 of " + n, bits(n), () -> x.parts(binary));
            due.answers("parts of a heap 2 of " + n, n == 0 ? 0 : 1, () -> x.parts(other));
        }
    }

    /** Promise 12. */
    private static void partsOfOthers() {
        for (int kind : new int[] {QUEUE, MAP, CHAIN}) {
            for (int form = 0; form < FORMS[kind]; form++) {
                Counted x = new Counted();
                int v = x.empty(kind, form);
                for (int i = 0; i < 16; i++) {
                    int old = v;
                    int want = i == 0 ? 0 : 1;
                    due.answers("parts of kind " + kind + " of " + i, want, () -> x.parts(old));
                    v = Scenes.withElement(x, v, kind, 2 * i, 0);
                }
                due.answers("parts makes no version", 17, x::versions);
            }
        }
    }

    /** Promise 13. */
    private static void kindOfEveryForm() {
        for (int kind = 0; kind < FORMS.length; kind++) {
            for (int form = 0; form < FORMS[kind]; form++) {
                Counted x = new Counted();
                int none = x.empty(kind, form);
                int one = Scenes.withElement(x, none, kind, 1, 1);
                int want = 10 * kind + form;
                due.answers("kind of an empty one", want, () -> x.kind(none));
                due.answers("kind of one with an element", want, () -> x.kind(one));
                due.answers("kind makes no version", 2, x::versions);
            }
        }
    }

    /** Promise 14: one more for each call that makes a version, none for all others. */
    private static void versionsAfterEveryCall() {
        Counted x = new Counted();
        grows(x, 1, () -> x.empty(HEAP, 1));
        grows(x, 1, () -> x.add(0, 4));
        grows(x, 1, () -> x.join(1, 1));
        grows(x, 1, () -> x.rest(2));
        grows(x, 1, () -> x.empty(MAP, 0));
        grows(x, 1, () -> x.bind(4, 3, 30));
        grows(x, 1, () -> x.bind(5, 3, 31));
        grows(x, 1, () -> x.empty(LIST, 0));
        grows(x, 1, () -> x.add(7, 1));
        grows(x, 1, () -> x.update(8, 0, 2));
        due.answers("versions in all", 10, x::versions);
        grows(x, 0, () -> x.first(2));
        grows(x, 0, () -> x.value(6, 3));
        grows(x, 0, () -> x.at(9, 0));
        grows(x, 0, () -> x.size(9));
        grows(x, 0, () -> x.parts(9));
        grows(x, 0, () -> x.kind(9));
        grows(x, 0, x::versions);
        grows(x, 0, () -> x.add(10, 1));
        grows(x, 0, () -> x.rest(0));
        grows(x, 0, () -> x.update(9, 1, 1));
        due.answers("versions in all", 10, x::versions);
    }

    private static void grows(Counted x, int by, Due.Call call) {
        int before = x.versions();
        Due.outcome(call);
        due.answers("versions after a call", before + by, x::versions);
    }

    /** README.md tells these very calls with these answers. */
    private static void exampleOfReadme() {
        LastingShapes x = new LastingShapes();
        int none = x.empty(0, 0);
        int one = x.add(none, 5);
        int two = x.add(one, 6);
        int less = x.rest(two);
        due.same("numbers", "0 1 2 3", none + " " + one + " " + two + " " + less);
        due.answers("first(less)", 6, () -> x.first(less));
        due.answers("at(two, 0)", 5, () -> x.at(two, 0));
        int map = x.bind(x.empty(3, 0), 200, 7);
        due.answers("value(map, 200)", 7, () -> x.value(map, 200));
        int list = x.add(x.add(x.empty(2, 1), 8), 9);
        int other = x.update(list, 1, 4);
        due.answers("at(other, 1)", 4, () -> x.at(other, 1));
        due.answers("parts(other)", 1, () -> x.parts(other));
        int chain = x.add(x.empty(4, 0), 3);
        due.answers("size(join(chain, chain))", 2, () -> x.size(x.join(chain, chain)));
        due.answers("versions()", 13, x::versions);
    }

    /** Two new versions from each old one must neither disturb it nor one another. */
    private static void oldVersionsStay() {
        Counted x = new Counted();
        int queue = made(x, QUEUE, 1, 1, 2);
        int one = x.add(queue, 3);
        int other = x.add(queue, 4);
        int less = x.rest(queue);
        due.elements("old queue", x, queue, 1, 2);
        due.elements("one new queue", x, one, 1, 2, 3);
        due.elements("other new queue", x, other, 1, 2, 4);
        due.elements("less", x, less, 2);
        int map = x.bind(x.empty(MAP, 1), 5, 50);
        int before = x.bind(map, 4, 40);
        int behind = x.bind(map, 6, 60);
        int same = x.bind(map, 5, 51);
        due.elements("old map", x, map, 50);
        due.elements("with a key before", x, before, 40, 50);
        due.elements("with a key behind", x, behind, 50, 60);
        due.elements("with another value", x, same, 51);
        due.fails("no key of another version", NO_ELEMENT, () -> x.value(same, 4));
        due.answers("the old value", 50, () -> x.value(before, 5));
    }
}
