import java.util.Arrays;
import java.util.NoSuchElementException;
import java.util.function.Supplier;
import java.util.function.ToIntFunction;

/**
 * The limits that the document names, sentence by sentence: the last input that is taken and the
 * first that is refused, versions without elements and full objects.
 */
final class BoundaryTest {
    private static final Class<IllegalArgumentException> ARGUMENT = IllegalArgumentException.class;
    private static final Class<IllegalStateException> STATE = IllegalStateException.class;
    private static final Class<NoSuchElementException> NO_ELEMENT = NoSuchElementException.class;
    private static final Class<IndexOutOfBoundsException> OUTSIDE = IndexOutOfBoundsException.class;

    private static final int LEAST = Integer.MIN_VALUE;
    private static final int MOST = Integer.MAX_VALUE;

    private static final Due due = new Due();

    public static void main(String[] args) {
        newObject();
        the512thCall();
        numbersInOrder();
        refusedCallsTakeNoNumber();
        the64thVersion();
        the65thVersion();
        fullObjectStillAnswers();
        the100thElement();
        joinsOf100Elements();
        joinsOfMore();
        asManyAsVersionsAllow();
        kindsAndForms();
        keysThatAreTaken();
        keysThatAreRefused();
        keysThatAMapHasNot();
        elementsOfEverySize();
        heapsByRisingSize();
        firstAndRestOfFew();
        placesOfEveryKind();
        placesOfUpdate();
        joinsWithoutElements();
        partsByTable();
        partsOfFew();
        due.end();
    }

    /** Something that is checked of one call that makes a version of an object as some(). */
    private interface ForMaker {
        void check(String told, int kindAndForm, int[] elements, ToIntFunction<Counted> call);
    }

    private static int[] row(int... elements) {
        return elements;
    }

    private static void eachMaker(ForMaker maker) {
        Scenes.eachKind((kind, form) -> {
            String told = " of kind " + kind + ", form " + form;
            int known = 10 * kind + form;
            int two = Scenes.two(kind, form);
            int one = Scenes.one(kind, form);
            int[] old = Scenes.rowOfTwo(kind);
            maker.check("empty" + told, known, row(), x -> x.empty(kind, form));
            if (kind == Scenes.MAP) {
                maker.check("bind of a key more" + told, known, row(-3, 1, 5), x -> x.bind(two, 7, 1));
                maker.check("bind in place" + told, known, row(-3, 1), x -> x.bind(two, 255, 1));
                return;
            }
            int[][] added = {{5, -3, 1}, {-3, 1, 5}, {1, -3, 5}, {}, {5, -3, 1}};
            maker.check("add" + told, known, added[kind], x -> x.add(two, 1));
            maker.check("rest" + told, known, row(old[1]), x -> x.rest(two));
            if (kind == Scenes.LIST) {
                maker.check("update" + told, known, row(-3, 1), x -> x.update(two, 1, 1));
            }
            if (kind == Scenes.HEAP || kind == Scenes.CHAIN) {
                maker.check("join" + told, known, row(old[0], old[1], 5), x -> x.join(two, one));
            }
        });
    }

    /** "No versions." */
    private static void newObject() {
        due.asks("versions of a new object", 0, Scenes::none, Counted::versions);
        due.makes("its first version", 0, row(), Scenes::none, x -> x.empty(0, 0));
        Counted other = Scenes.some();
        due.asks("beside one with versions", 0, Scenes::none, Counted::versions);
        due.answers("which keeps its own", 33, other::versions);
    }

    /** "An object is used for at most 512 calls after it has been made". */
    private static void the512thCall() {
        eachMaker((told, known, elements, call) -> {
            Supplier<Counted> scene = () -> spent(Scenes.some(), 1);
            due.answers("call 512: " + told, 33, () -> call.applyAsInt(scene.get()));
            Counted x = spent(Scenes.some(), 2);
            call.applyAsInt(x);
            due.answers("size, call 512, of " + told, elements.length, () -> x.size(33));
        });
        int queue = Scenes.two(Scenes.QUEUE, 2);
        int map = Scenes.two(Scenes.MAP, 1);
        due.answers("first, call 512", 5, () -> spent(Scenes.some(), 1).first(queue));
        due.answers("at, call 512", -3, () -> spent(Scenes.some(), 1).at(queue, 1));
        due.answers("value, call 512", -3, () -> spent(Scenes.some(), 1).value(map, 0));
        due.answers("parts, call 512", 1, () -> spent(Scenes.some(), 1).parts(map));
        due.answers("kind, call 512", 31, () -> spent(Scenes.some(), 1).kind(map));
        due.answers("versions, call 512", 33, () -> spent(Scenes.some(), 1).versions());
        due.fails("add, call 512, refused", ARGUMENT, () -> spent(Scenes.some(), 1).add(33, 1));
        due.fails("empty, call 512, refused", STATE, () -> spent(Scenes.filled(64), 1).empty(0, 0));
        due.fails("first, call 512, refused", NO_ELEMENT, () -> spent(Scenes.some(), 1).first(0));
        due.fails("at, call 512, refused", OUTSIDE, () -> spent(Scenes.some(), 1).at(queue, 2));
    }

    /** Uses up calls, answered and refused ones, until so many are left. */
    private static Counted spent(Counted x, int left) {
        while (x.callsLeft() > left) {
            if (x.callsLeft() % 2 == 0) {
                x.size(0);
            } else {
                Due.outcome(() -> x.rest(0));
            }
        }
        return x;
    }

    /** "VERSIONS are numbered from 0 in the order in which they were made". */
    private static void numbersInOrder() {
        eachMaker((told, known, elements, call) ->
                due.makes(told, known, elements, Scenes::some, call));
        Counted x = Scenes.none();
        for (int i = 0; i < 64; i++) {
            int number = i;
            int form = i % 3;
            due.answers("version " + i, number, () -> x.empty(Scenes.QUEUE, form));
            due.answers("versions after it", number + 1, x::versions);
        }
        for (int v = 0; v < 64; v++) {
            int number = v;
            due.answers("kind of version " + v, v % 3, () -> x.kind(number));
        }
    }

    /** "A call that throws changes nothing", also not the number of the next version. */
    private static void refusedCallsTakeNoNumber() {
        Counted x = Scenes.some();
        for (int i = 0; i < 30; i++) {
            Due.outcome(() -> x.empty(5, 0));
            Due.outcome(() -> x.rest(0));
            Due.outcome(() -> x.update(Scenes.two(Scenes.LIST, 0), 2, 1));
            Due.outcome(() -> x.bind(Scenes.two(Scenes.MAP, 0), 256, 1));
            Due.outcome(() -> x.join(0, 0));
        }
        due.same("after 150 refused calls", Scenes.some().all(), x.all());
        due.answers("the next version", 33, () -> x.empty(0, 0));
    }

    /** "at most 64": the last one that may be, by every call that makes versions. */
    private static void the64thVersion() {
        eachMaker((told, known, elements, call) ->
                due.makes("as the last: " + told, known, elements, () -> Scenes.filled(63), call));
    }

    /** "there are 64 versions": the first one that may not be. */
    private static void the65thVersion() {
        eachMaker((told, known, elements, call) ->
                due.refuses("one too many: " + told, STATE, () -> Scenes.filled(64), call));
        Counted x = Scenes.filled(64);
        for (int i = 0; i < 100; i++) {
            due.fails("again and again", STATE, () -> x.empty(0, 0));
        }
        due.answers("64 stay", 64, x::versions);
    }

    private static void fullObjectStillAnswers() {
        Supplier<Counted> full = () -> Scenes.filled(64);
        due.asks("versions of a full object", 64, full, Counted::versions);
        due.asks("kind of its last version", 40, full, x -> x.kind(63));
        due.asks("size of its last version", 0, full, x -> x.size(63));
        due.asks("parts of its last version", 0, full, x -> x.parts(63));
        due.refuses("first of its last version", NO_ELEMENT, full, x -> x.first(63));
        due.refuses("a version behind the last", ARGUMENT, full, x -> x.kind(64));
        Scenes.eachKind((kind, form) -> {
            int v = Scenes.two(kind, form);
            int[] old = Scenes.rowOfTwo(kind);
            due.asks("at in a full object", old[1], full, x -> x.at(v, 1));
            due.refuses("at, outside", OUTSIDE, full, x -> x.at(v, 2));
            if (kind == Scenes.MAP) {
                due.asks("value in a full object", 5, full, x -> x.value(v, 255));
                due.refuses("value of none", NO_ELEMENT, full, x -> x.value(v, 254));
            } else {
                due.asks("first in a full object", old[0], full, x -> x.first(v));
            }
        });
    }

    private static void eachJoinable(Scenes.ForKind what) {
        Scenes.eachKind((kind, form) -> {
            if (kind == Scenes.HEAP || kind == Scenes.CHAIN) {
                what.run(kind, form);
            }
        });
    }

    private static int[] sevensAndEights(int sevens, int eights) {
        int[] row = new int[sevens + eights];
        Arrays.fill(row, 0, sevens, 7);
        Arrays.fill(row, sevens, sevens + eights, 8);
        return row;
    }

    /** "none with more than 100 elements", by add; only heaps and chains can grow so far. */
    private static void the100thElement() {
        eachJoinable((kind, form) -> {
            String told = " of kind " + kind + ", form " + form;
            int known = 10 * kind + form;
            Supplier<Counted> most = () -> Scenes.sevensAndEights(kind, form, 99, 100);
            due.makes("element 100" + told, known, sevensAndEights(99, 1), most,
                    x -> x.add(x.versions() - 2, 8));
            due.refuses("element 101" + told, STATE, most, x -> x.add(x.versions() - 1, 9));
            due.makes("rest of 100" + told, known, sevensAndEights(0, 99), most,
                    x -> x.rest(x.versions() - 1));
            due.asks("first of 100" + told, 8, most, x -> x.first(x.versions() - 1));
            due.asks("the last of 100" + told, 8, most, x -> x.at(x.versions() - 1, 99));
            due.refuses("behind 100" + told, OUTSIDE, most, x -> x.at(x.versions() - 1, 100));
            Counted x = most.get();
            int again = x.add(x.rest(x.versions() - 1), 9);
            due.answers("there is room again" + told, 100, () -> x.size(again));
            due.fails("but for one only" + told, STATE, () -> x.add(again, 9));
        });
    }

    /** "none with more than 100 elements", by join. */
    private static void joinsOf100Elements() {
        int[][] sizes = {{50, 50}, {99, 1}, {1, 99}, {100, 0}, {0, 100}, {63, 37}};
        eachJoinable((kind, form) -> {
            for (int[] both : sizes) {
                String told = "join of " + both[0] + " and " + both[1] + ", kind " + kind;
                due.makes(told, 10 * kind + form, sevensAndEights(both[0], both[1]),
                        () -> Scenes.sevensAndEights(kind, form, both[0], both[1]),
                        x -> x.join(x.versions() - 2, x.versions() - 1));
            }
        });
    }

    /** "or the new one would have more than 100 elements", by join. */
    private static void joinsOfMore() {
        int[][] sizes = {{51, 50}, {50, 51}, {100, 1}, {1, 100}, {100, 100}, {64, 37}};
        eachJoinable((kind, form) -> {
            for (int[] both : sizes) {
                String told = "join of " + both[0] + " and " + both[1] + ", kind " + kind;
                Supplier<Counted> scene =
                        () -> Scenes.sevensAndEights(kind, form, both[0], both[1]);
                due.refuses(told, STATE, scene, x -> x.join(x.versions() - 2, x.versions() - 1));
                due.refuses(told + ", turned", STATE, scene,
                        x -> x.join(x.versions() - 1, x.versions() - 2));
            }
            due.refuses("51 with themselves, kind " + kind, STATE,
                    () -> Scenes.sevensAndEights(kind, form, 0, 51),
                    x -> x.join(x.versions() - 1, x.versions() - 1));
        });
    }

    /** Without join, 64 versions end before 100 elements: no smaller limit may stand before. */
    private static void asManyAsVersionsAllow() {
        Scenes.eachKind((kind, form) -> {
            String told = "63 elements of kind " + kind + ", form " + form;
            int[] row = new int[63];
            for (int i = 0; i < 63; i++) {
                row[i] = kind == Scenes.LIST || kind == Scenes.MAP ? 62 - i : i;
            }
            Counted x = Scenes.line(kind, form, 63);
            due.elements(told, x, 63, row);
            due.answers(told + ": versions", 64, x::versions);
            due.fails(told + ": one more", STATE,
                    () -> kind == Scenes.MAP ? x.bind(63, 0, 1) : x.add(63, 1));
            due.answers(told + ": versions stay", 64, x::versions);
        });
    }

    /** "kind 0, QUEUE, forms 0 .. 2" and the other kinds with their forms, and none beside. */
    private static void kindsAndForms() {
        int[] numbers = {LEAST, -256, -2, -1, 0, 1, 2, 3, 4, 5, 6, 256, MOST};
        for (int kind : numbers) {
            for (int form : numbers) {
                String told = "empty(" + kind + ", " + form + ")";
                ToIntFunction<Counted> call = x -> x.empty(kind, form);
                if (kind >= 0 && kind <= 4 && form >= 0 && form < Scenes.FORMS[kind]) {
                    due.makes(told, 10 * kind + form, row(), Scenes::some, call);
                } else {
                    due.refuses(told, ARGUMENT, Scenes::some, call);
                    due.refuses(told + " at once", ARGUMENT, Scenes::none, call);
                }
            }
        }
    }

    /** "a key, which must be 0 .. 255", "in place of one that it may have", "by rising keys". */
    private static void keysThatAreTaken() {
        for (int form = 0; form < 2; form++) {
            int known = 30 + form;
            int bare = Scenes.bare(Scenes.MAP, form);
            int two = Scenes.two(Scenes.MAP, form);
            for (int key = 0; key <= 255; key++) {
                int k = key;
                String told = "bind of key " + key + ", form " + form;
                int[] row = key == 0 ? row(1, 5) : key == 255 ? row(-3, 1) : row(-3, 1, 5);
                due.makes(told, known, row, Scenes::some, x -> x.bind(two, k, 1));
                due.makes(told + ", alone", known, row(1), Scenes::some, x -> x.bind(bare, k, 1));
                Counted x = Scenes.some();
                int v = x.bind(two, key, 1);
                due.answers(told + ": its value", 1, () -> x.value(v, k));
                due.answers(told + ": the first of the others", key == 0 ? 1 : -3, () -> x.value(v, 0));
                due.answers(told + ": the last of them", key == 255 ? 1 : 5, () -> x.value(v, 255));
            }
        }
    }

    /** "which must be 0 .. 255 (else IllegalArgumentException)". */
    private static void keysThatAreRefused() {
        for (int form = 0; form < 2; form++) {
            int bare = Scenes.bare(Scenes.MAP, form);
            int two = Scenes.two(Scenes.MAP, form);
            for (int key : new int[] {LEAST, -256, -255, -1, 256, 257, 511, 512, 65536, MOST}) {
                String told = "bind of key " + key + ", form " + form;
                due.refuses(told, ARGUMENT, Scenes::some, x -> x.bind(two, key, 1));
                due.refuses(told + ", alone", ARGUMENT, Scenes::some, x -> x.bind(bare, key, 1));
            }
        }
    }

    /** "no such key": also one that no map may have, as only bind names another exception for it. */
    private static void keysThatAMapHasNot() {
        for (int form = 0; form < 2; form++) {
            int bare = Scenes.bare(Scenes.MAP, form);
            int one = Scenes.one(Scenes.MAP, form);
            int two = Scenes.two(Scenes.MAP, form);
            for (int key : new int[] {LEAST, -256, -255, -1, 1, 128, 254, 256, 511, 65536, MOST}) {
                String told = "value of key " + key + ", form " + form;
                due.refuses(told, NO_ELEMENT, Scenes::some, x -> x.value(two, key));
                due.refuses(told + ", of none", NO_ELEMENT, Scenes::some, x -> x.value(bare, key));
            }
            due.asks("value of the last key", 5, Scenes::some, x -> x.value(two, 255));
            due.asks("value of the first key", -3, Scenes::some, x -> x.value(two, 0));
            due.asks("value of the one key", 5, Scenes::some, x -> x.value(one, 255));
            due.refuses("a key that came later", NO_ELEMENT, Scenes::some, x -> x.value(one, 0));
            due.refuses("the first key, of none", NO_ELEMENT, Scenes::some, x -> x.value(bare, 0));
            due.refuses("the last key, of none", NO_ELEMENT, Scenes::some, x -> x.value(bare, 255));
        }
    }

    /** "holds ELEMENTS, ints": each int is one, also those that might stand for none. */
    private static void elementsOfEverySize() {
        for (int element : new int[] {LEAST, LEAST + 1, -1, 0, 1, 255, 256, MOST - 1, MOST}) {
            Scenes.eachKind((kind, form) -> {
                String told = "element " + element + " of kind " + kind + ", form " + form;
                int known = 10 * kind + form;
                int bare = Scenes.bare(kind, form);
                int one = Scenes.one(kind, form);
                if (kind == Scenes.MAP) {
                    due.makes(told, known, row(element), Scenes::some, x -> x.bind(bare, 9, element));
                    due.makes(told, known, row(element), Scenes::some, x -> x.bind(one, 255, element));
                    Counted x = Scenes.some();
                    due.answers(told, element, () -> x.value(x.bind(one, 9, element), 9));
                    return;
                }
                due.makes(told, known, row(element), Scenes::some, x -> x.add(bare, element));
                if (kind == Scenes.LIST) {
                    due.makes(told, known, row(element), Scenes::some, x -> x.update(one, 0, element));
                }
                Counted x = Scenes.some();
                due.answers(told, element, () -> x.first(x.add(bare, element)));
            });
        }
    }

    /** "elements by rising size, also equal ones; the least is taken". */
    private static void heapsByRisingSize() {
        int[] added = {0, MOST, LEAST, MOST, -1, LEAST, 1, 0};
        int[] rising = {LEAST, LEAST, -1, 0, 0, 1, MOST, MOST};
        for (int form = 0; form < 3; form++) {
            Counted x = Scenes.none();
            int v = x.empty(Scenes.HEAP, form);
            for (int element : added) {
                v = x.add(v, element);
            }
            due.elements("heap of extremes", x, v, rising);
            for (int i = 0; i < rising.length; i++) {
                int heap = v;
                due.answers("the least of the rest", rising[i], () -> x.first(heap));
                due.elements("the rest", x, v, Arrays.copyOfRange(rising, i, rising.length));
                v = x.rest(v);
            }
            int left = x.add(x.add(0, MOST), LEAST);
            int right = x.add(x.add(x.add(0, LEAST), MOST), 0);
            due.elements("joined", x, x.join(left, right), LEAST, LEAST, 0, MOST, MOST);
            due.elements("joined, turned", x, x.join(right, left), LEAST, LEAST, 0, MOST, MOST);
        }
    }

    /** "there is no element": without any, and with the last one taken. */
    private static void firstAndRestOfFew() {
        Scenes.eachKind((kind, form) -> {
            if (kind == Scenes.MAP) {
                return;
            }
            String told = " of kind " + kind + ", form " + form;
            int known = 10 * kind + form;
            int bare = Scenes.bare(kind, form);
            int one = Scenes.one(kind, form);
            Supplier<Counted> emptied = () -> {
                Counted x = Scenes.some();
                x.rest(one);
                return x;
            };
            due.asks("first" + told, 5, Scenes::some, x -> x.first(one));
            due.makes("rest" + told, known, row(), Scenes::some, x -> x.rest(one));
            due.refuses("first of none" + told, NO_ELEMENT, Scenes::some, x -> x.first(bare));
            due.refuses("rest of none" + told, NO_ELEMENT, Scenes::some, x -> x.rest(bare));
            due.refuses("first of no rest" + told, NO_ELEMENT, emptied, x -> x.first(33));
            due.refuses("rest of no rest" + told, NO_ELEMENT, emptied, x -> x.rest(33));
            due.makes("add to no rest" + told, known, row(4), emptied, x -> x.add(33, 4));
        });
    }

    /** "there is no such place", "Element i (from 0) of v, of any kind". */
    private static void placesOfEveryKind() {
        Scenes.eachKind((kind, form) -> {
            int[][] rows = {row(), row(5), Scenes.rowOfTwo(kind)};
            for (int size = 0; size < rows.length; size++) {
                int v = Scenes.bare(kind, form) + size;
                String told = " of " + size + " of kind " + kind + ", form " + form;
                for (int i = 0; i < size; i++) {
                    int place = i;
                    due.asks("at " + i + told, rows[size][i], Scenes::some, x -> x.at(v, place));
                }
                for (int i : new int[] {LEAST, -size - 1, -1, size, size + 1, 100, MOST}) {
                    due.refuses("at " + i + told, OUTSIDE, Scenes::some, x -> x.at(v, i));
                }
                due.asks("size" + told, size, Scenes::some, x -> x.size(v));
            }
        });
    }

    /** "list v (kind 2) with x in place of its element at place i, from 0". */
    private static void placesOfUpdate() {
        for (int form = 0; form < 2; form++) {
            int known = 20 + form;
            for (int size = 0; size < 3; size++) {
                int v = Scenes.bare(Scenes.LIST, form) + size;
                for (int i : new int[] {LEAST, -size - 1, -1, size, size + 1, 100, MOST}) {
                    String told = "update at " + i + " of " + size + ", form " + form;
                    due.refuses(told, OUTSIDE, Scenes::some, x -> x.update(v, i, 1));
                }
            }
            int one = Scenes.one(Scenes.LIST, form);
            int two = Scenes.two(Scenes.LIST, form);
            due.makes("update of the one", known, row(1), Scenes::some, x -> x.update(one, 0, 1));
            due.makes("of the first", known, row(1, 5), Scenes::some, x -> x.update(two, 0, 1));
            due.makes("of the last", known, row(-3, 1), Scenes::some, x -> x.update(two, 1, 1));
            due.makes("by the same", known, row(-3, 5), Scenes::some, x -> x.update(two, 1, 5));
        }
    }

    /** "A new version with the elements of v and w": also if one has none, or both are one. */
    private static void joinsWithoutElements() {
        eachJoinable((kind, form) -> {
            String told = " of kind " + kind + ", form " + form;
            int known = 10 * kind + form;
            int bare = Scenes.bare(kind, form);
            int two = Scenes.two(kind, form);
            int[] row = Scenes.rowOfTwo(kind);
            int[] twice = kind == Scenes.HEAP ? row(-3, -3, 5, 5) : row(5, -3, 5, -3);
            due.makes("join with none" + told, known, row, Scenes::some, x -> x.join(two, bare));
            due.makes("join to none" + told, known, row, Scenes::some, x -> x.join(bare, two));
            due.makes("join of none" + told, known, row(), Scenes::some, x -> x.join(bare, bare));
            due.makes("join with itself" + told, known, twice, Scenes::some, x -> x.join(two, two));
        });
    }

    /** "the fewest trees with 1, 3, 7, 15, .. elements", "how many bits are set": size, then parts. */
    private static void partsByTable() {
        int[][] trees = {{0, 0}, {1, 1}, {2, 2}, {3, 1}, {4, 2}, {5, 3}, {6, 2}, {7, 1}, {8, 2},
            {13, 3}, {14, 2}, {15, 1}, {16, 2}, {29, 3}, {30, 2}, {31, 1}, {32, 2}, {57, 5},
            {58, 6}, {59, 5}, {61, 3}, {62, 2}, {63, 1}};
        int[][] bits = {{0, 0}, {1, 1}, {2, 1}, {3, 2}, {4, 1}, {7, 3}, {8, 1}, {15, 4}, {16, 1},
            {31, 5}, {32, 1}, {62, 5}, {63, 6}};
        int[][] bitsOfMore = {{63, 6}, {64, 1}, {65, 2}, {95, 6}, {96, 2}, {99, 4}, {100, 3}};
        for (int[] want : trees) {
            Counted x = Scenes.line(Scenes.LIST, 0, want[0]);
            due.answers("trees of " + want[0], want[1], () -> x.parts(want[0]));
        }
        for (int[] want : bits) {
            Counted list = Scenes.line(Scenes.LIST, 1, want[0]);
            Counted heap = Scenes.line(Scenes.HEAP, 1, want[0]);
            due.answers("bits of a list of " + want[0], want[1], () -> list.parts(want[0]));
            due.answers("bits of a heap of " + want[0], want[1], () -> heap.parts(want[0]));
        }
        for (int[] want : bitsOfMore) {
            Counted x = Scenes.sevensAndEights(Scenes.HEAP, 1, 0, want[0]);
            due.answers("bits of " + want[0], want[1], () -> x.parts(x.versions() - 1));
        }
    }

    /** "All others 1, or 0 without elements." */
    private static void partsOfFew() {
        Scenes.eachKind((kind, form) -> {
            String told = "parts of kind " + kind + ", form " + form;
            int bare = Scenes.bare(kind, form);
            int ofTwo = kind == Scenes.LIST && form == 0 ? 2 : 1;
            due.asks(told + ", of none", 0, Scenes::some, x -> x.parts(bare));
            due.asks(told + ", of one", 1, Scenes::some, x -> x.parts(bare + 1));
            due.asks(told + ", of two", ofTwo, Scenes::some, x -> x.parts(bare + 2));
            if (kind != Scenes.MAP) {
                Counted x = Scenes.some();
                due.answers(told + ", of no rest", 0, () -> x.parts(x.rest(bare + 1)));
                due.answers(told + ", of a rest", 1, () -> x.parts(x.rest(bare + 2)));
            }
        });
        eachJoinable((kind, form) -> {
            Supplier<Counted> most = () -> Scenes.sevensAndEights(kind, form, 99, 100);
            int want = kind == Scenes.HEAP && form == 1 ? 3 : 1;
            due.asks("parts of 100, kind " + kind, want, most, x -> x.parts(x.versions() - 1));
        });
    }
}
