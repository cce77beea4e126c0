import java.util.NoSuchElementException;
import java.util.function.Supplier;

/**
 * "EXCEPTIONS, the first that holds of those that a call names, in their order": what each call
 * refuses, which of two exceptions comes first, and that a refused call has changed nothing.
 */
final class ExceptionTest {
    private static final Class<IllegalArgumentException> ARGUMENT = IllegalArgumentException.class;
    private static final Class<IllegalStateException> STATE = IllegalStateException.class;
    private static final Class<NoSuchElementException> NO_ELEMENT = NoSuchElementException.class;
    private static final Class<IndexOutOfBoundsException> OUTSIDE = IndexOutOfBoundsException.class;

    private static final Supplier<Counted> SOME = Scenes::some;
    private static final Supplier<Counted> FULL = () -> Scenes.filled(64);

    private static final Due due = new Due();

    public static void main(String[] args) {
        noSuchVersion();
        firstAndLastVersion();
        notOfAKindThatIsTold();
        notOfOneKindAndForm();
        argumentBeforeFullObject();
        argumentBeforeTooManyElements();
        argumentBeforeNoElement();
        argumentBeforeNoPlace();
        fullObjectBeforeNoElement();
        fullObjectBeforeNoPlace();
        fullObjectAndTooManyElements();
        due.end();
    }

    /** "there is no such version": in every call, in a new, a used and a full object. */
    private static void noSuchVersion() {
        int[] never = {Integer.MIN_VALUE, -64, -1, 64, 65, 128, 256, Integer.MAX_VALUE};
        for (int v : never) {
            everyCallRefuses("in a new object", Scenes::none, v, 0);
            everyCallRefuses("in a used object", SOME, v, Scenes.two(Scenes.CHAIN, 0));
            everyCallRefuses("in a full object", FULL, v, Scenes.two(Scenes.HEAP, 1));
        }
        everyCallRefuses("in a new object", Scenes::none, 0, 0);
        everyCallRefuses("next in a used object", SOME, 33, Scenes.two(Scenes.CHAIN, 0));
        everyCallRefuses("last of all", () -> Scenes.filled(63), 63, Scenes.two(Scenes.HEAP, 0));
    }

    private static void everyCallRefuses(String where, Supplier<Counted> scene, int v, int other) {
        String told = "(" + v + ") " + where;
        due.refuses("add" + told, ARGUMENT, scene, x -> x.add(v, 1));
        due.refuses("first" + told, ARGUMENT, scene, x -> x.first(v));
        due.refuses("rest" + told, ARGUMENT, scene, x -> x.rest(v));
        due.refuses("join to other" + told, ARGUMENT, scene, x -> x.join(v, other));
        due.refuses("join of other" + told, ARGUMENT, scene, x -> x.join(other, v));
        due.refuses("join with itself" + told, ARGUMENT, scene, x -> x.join(v, v));
        due.refuses("bind" + told, ARGUMENT, scene, x -> x.bind(v, 1, 1));
        due.refuses("value" + told, ARGUMENT, scene, x -> x.value(v, 1));
        due.refuses("update" + told, ARGUMENT, scene, x -> x.update(v, 0, 1));
        due.refuses("at" + told, ARGUMENT, scene, x -> x.at(v, 0));
        due.refuses("size" + told, ARGUMENT, scene, x -> x.size(v));
        due.refuses("parts" + told, ARGUMENT, scene, x -> x.parts(v));
        due.refuses("kind" + told, ARGUMENT, scene, x -> x.kind(v));
    }

    /** Version 0 and the last one are versions as all others; the first is always without elements. */
    private static void firstAndLastVersion() {
        Scenes.eachKind((kind, form) -> {
            String told = " of kind " + kind + ", form " + form;
            int known = 10 * kind + form;
            Supplier<Counted> scene = () -> Scenes.line(kind, form, 1);
            due.asks("kind(0)" + told, known, scene, x -> x.kind(0));
            due.asks("kind(1)" + told, known, scene, x -> x.kind(1));
            due.asks("size(0)" + told, 0, scene, x -> x.size(0));
            due.asks("size(1)" + told, 1, scene, x -> x.size(1));
            due.asks("parts(0)" + told, 0, scene, x -> x.parts(0));
            due.asks("parts(1)" + told, 1, scene, x -> x.parts(1));
            due.refuses("at(0, 0)" + told, OUTSIDE, scene, x -> x.at(0, 0));
            due.asks("at(1, 0)" + told, 0, scene, x -> x.at(1, 0));
            if (kind == Scenes.MAP) {
                due.makes("bind(0)" + told, known, new int[] {4}, scene, x -> x.bind(0, 255, 4));
                due.makes("bind(1)" + told, known, new int[] {4}, scene, x -> x.bind(1, 255, 4));
                due.refuses("value(0)" + told, NO_ELEMENT, scene, x -> x.value(0, 255));
                due.asks("value(1)" + told, 0, scene, x -> x.value(1, 255));
                return;
            }
            due.makes("add(0)" + told, known, new int[] {4}, scene, x -> x.add(0, 4));
            due.refuses("first(0)" + told, NO_ELEMENT, scene, x -> x.first(0));
            due.asks("first(1)" + told, 0, scene, x -> x.first(1));
            due.refuses("rest(0)" + told, NO_ELEMENT, scene, x -> x.rest(0));
            due.makes("rest(1)" + told, known, new int[] {}, scene, x -> x.rest(1));
            if (kind == Scenes.LIST) {
                due.refuses("update(0)" + told, OUTSIDE, scene, x -> x.update(0, 0, 4));
                due.makes("update(1)" + told, known, new int[] {4}, scene, x -> x.update(1, 0, 4));
            } else if (kind != Scenes.QUEUE) {
                due.makes("join(0, 1)" + told, known, new int[] {0}, scene, x -> x.join(0, 1));
                due.makes("join(1, 0)" + told, known, new int[] {0}, scene, x -> x.join(1, 0));
            }
        });
    }

    /** "or it is not of a kind that is told for the call". */
    private static void notOfAKindThatIsTold() {
        Scenes.eachKind((kind, form) -> {
            for (int size = 0; size < 3; size++) {
                int v = Scenes.bare(kind, form) + size;
                String told = " of " + size + " of kind " + kind + ", form " + form;
                if (kind == Scenes.MAP) {
                    due.refuses("add" + told, ARGUMENT, SOME, x -> x.add(v, 1));
                    due.refuses("first" + told, ARGUMENT, SOME, x -> x.first(v));
                    due.refuses("rest" + told, ARGUMENT, SOME, x -> x.rest(v));
                } else {
                    due.refuses("bind" + told, ARGUMENT, SOME, x -> x.bind(v, 0, 1));
                    due.refuses("value" + told, ARGUMENT, SOME, x -> x.value(v, 0));
                }
                if (kind != Scenes.LIST) {
                    due.refuses("update" + told, ARGUMENT, SOME, x -> x.update(v, 0, 1));
                }
                if (kind != Scenes.HEAP && kind != Scenes.CHAIN) {
                    due.refuses("join" + told, ARGUMENT, SOME, x -> x.join(v, v));
                }
            }
        });
    }

    /** "which must be of one kind, 1 or 4, and form". */
    private static void notOfOneKindAndForm() {
        Scenes.eachKind((kind, form) -> Scenes.eachKind((otherKind, otherForm) -> {
            if (kind == otherKind && form == otherForm) {
                return;
            }
            String told = "join of " + kind + ", " + form + " and " + otherKind + ", " + otherForm;
            int bare = Scenes.bare(otherKind, otherForm);
            for (int size = 0; size < 3; size++) {
                int v = Scenes.bare(kind, form) + size;
                int w = Scenes.bare(otherKind, otherForm) + size;
                due.refuses(told, ARGUMENT, SOME, x -> x.join(v, w));
                due.refuses(told + ", with none", ARGUMENT, SOME, x -> x.join(v, bare));
                due.refuses(told + ", full", ARGUMENT, FULL, x -> x.join(v, w));
            }
        }));
    }

    /** IllegalArgumentException before IllegalStateException, with 64 versions. */
    private static void argumentBeforeFullObject() {
        for (int kind : new int[] {Integer.MIN_VALUE, -1, 5, Integer.MAX_VALUE}) {
            due.refuses("empty of kind " + kind, ARGUMENT, FULL, x -> x.empty(kind, 0));
        }
        Scenes.eachKind((kind, form) -> {
            String told = " of kind " + kind + ", form " + form;
            int v = Scenes.two(kind, form);
            int next = Scenes.FORMS[kind];
            due.refuses("empty of no form" + told, ARGUMENT, FULL, x -> x.empty(kind, -1));
            due.refuses("empty of the next form" + told, ARGUMENT, FULL, x -> x.empty(kind, next));
            if (kind == Scenes.MAP) {
                due.refuses("add" + told, ARGUMENT, FULL, x -> x.add(v, 1));
                due.refuses("rest" + told, ARGUMENT, FULL, x -> x.rest(v));
                due.refuses("bind of key -1" + told, ARGUMENT, FULL, x -> x.bind(v, -1, 1));
                due.refuses("bind of key 256" + told, ARGUMENT, FULL, x -> x.bind(v, 256, 1));
            } else {
                due.refuses("bind" + told, ARGUMENT, FULL, x -> x.bind(v, 0, 1));
                due.refuses("bind of key -1" + told, ARGUMENT, FULL, x -> x.bind(v, -1, 1));
            }
            if (kind != Scenes.LIST) {
                due.refuses("update" + told, ARGUMENT, FULL, x -> x.update(v, 0, 1));
                due.refuses("update outside" + told, ARGUMENT, FULL, x -> x.update(v, 2, 1));
            }
            if (kind != Scenes.HEAP && kind != Scenes.CHAIN) {
                due.refuses("join" + told, ARGUMENT, FULL, x -> x.join(v, v));
            }
        });
    }

    /** IllegalArgumentException before IllegalStateException, with more than 100 elements. */
    private static void argumentBeforeTooManyElements() {
        Scenes.eachKind((kind, form) -> {
            if (kind == Scenes.HEAP && form == 0) {
                return;
            }
            Supplier<Counted> scene = () -> {
                Counted x = Scenes.sevensAndEights(Scenes.HEAP, 0, 0, 100);
                int bare = x.empty(kind, form);
                Scenes.withElement(x, bare, kind, 1, 1);
                return x;
            };
            String told = "join of 100 and one of kind " + kind + ", form " + form;
            due.refuses(told, ARGUMENT, scene, x -> x.join(x.versions() - 3, x.versions() - 1));
            due.refuses(told + ", turned", ARGUMENT, scene,
                    x -> x.join(x.versions() - 1, x.versions() - 3));
        });
        Supplier<Counted> most = () -> Scenes.sevensAndEights(Scenes.CHAIN, 0, 0, 100);
        due.refuses("join of 100 and no version", ARGUMENT, most, x -> x.join(x.versions() - 1, 64));
        due.refuses("join of no version and 100", ARGUMENT, most, x -> x.join(-1, x.versions() - 1));
    }

    /** IllegalArgumentException before NoSuchElementException. */
    private static void argumentBeforeNoElement() {
        for (int form = 0; form < 2; form++) {
            int bare = Scenes.bare(Scenes.MAP, form);
            due.refuses("first of a bare map", ARGUMENT, SOME, x -> x.first(bare));
            due.refuses("rest of a bare map", ARGUMENT, SOME, x -> x.rest(bare));
            due.refuses("rest of a bare map, full", ARGUMENT, FULL, x -> x.rest(bare));
        }
        Scenes.eachKind((kind, form) -> {
            if (kind != Scenes.MAP) {
                int v = Scenes.bare(kind, form);
                String told = "value of kind " + kind + ", form " + form + ", key ";
                for (int key : new int[] {-1, 0, 255, 256}) {
                    due.refuses(told + key, ARGUMENT, SOME, x -> x.value(v, key));
                }
            }
        });
        due.refuses("value of no version and key", ARGUMENT, SOME, x -> x.value(33, 256));
    }

    /** IllegalArgumentException before IndexOutOfBoundsException. */
    private static void argumentBeforeNoPlace() {
        for (int i : new int[] {Integer.MIN_VALUE, -1, 0, 100, Integer.MAX_VALUE}) {
            due.refuses("at(33, " + i + ")", ARGUMENT, SOME, x -> x.at(33, i));
            due.refuses("at(-1, " + i + ")", ARGUMENT, SOME, x -> x.at(-1, i));
            due.refuses("at(0, " + i + ") of none", ARGUMENT, Scenes::none, x -> x.at(0, i));
            due.refuses("update(33, " + i + ")", ARGUMENT, SOME, x -> x.update(33, i, 1));
            due.refuses("update(64, " + i + "), full", ARGUMENT, FULL, x -> x.update(64, i, 1));
            Scenes.eachKind((kind, form) -> {
                if (kind != Scenes.LIST) {
                    int v = Scenes.bare(kind, form);
                    String told = "update of kind " + kind + ", form " + form + ", at " + i;
                    due.refuses(told, ARGUMENT, SOME, x -> x.update(v, i, 1));
                }
            });
        }
    }

    /** IllegalStateException before NoSuchElementException. */
    private static void fullObjectBeforeNoElement() {
        Scenes.eachKind((kind, form) -> {
            if (kind != Scenes.MAP) {
                int v = Scenes.bare(kind, form);
                String told = " of none of kind " + kind + ", form " + form;
                due.refuses("rest" + told + ", full", STATE, FULL, x -> x.rest(v));
                due.refuses("first" + told + ", full", NO_ELEMENT, FULL, x -> x.first(v));
                due.refuses("rest" + told + ", room for one", NO_ELEMENT,
                        () -> Scenes.filled(63), x -> x.rest(v));
            }
        });
    }

    /** IllegalStateException before IndexOutOfBoundsException. */
    private static void fullObjectBeforeNoPlace() {
        for (int form = 0; form < 2; form++) {
            int bare = Scenes.bare(Scenes.LIST, form);
            int two = Scenes.two(Scenes.LIST, form);
            for (int i : new int[] {Integer.MIN_VALUE, -1, 2, Integer.MAX_VALUE}) {
                String told = "update at " + i + ", form " + form;
                due.refuses(told + ", full", STATE, FULL, x -> x.update(two, i, 1));
                due.refuses(told + ", room for one", OUTSIDE,
                        () -> Scenes.filled(63), x -> x.update(two, i, 1));
            }
            due.refuses("update of none, full", STATE, FULL, x -> x.update(bare, 0, 1));
        }
    }

    /** Both reasons for IllegalStateException at once, and a wrong argument before both. */
    private static void fullObjectAndTooManyElements() {
        Supplier<Counted> scene = () -> {
            Counted x = Scenes.none();
            int bare = x.empty(Scenes.CHAIN, 0);
            int most = Scenes.same(x, bare, 7, 100);
            for (int made = x.versions(); made < 63; made++) {
                x.empty(Scenes.QUEUE, 0);
            }
            x.join(most, bare);
            return x;
        };
        due.asks("100 elements in version 63", 100, scene, x -> x.size(63));
        due.refuses("add, full and 101", STATE, scene, x -> x.add(63, 1));
        due.refuses("join, full and 200", STATE, scene, x -> x.join(63, 63));
        due.refuses("rest, full", STATE, scene, x -> x.rest(63));
        due.refuses("join with a queue", ARGUMENT, scene, x -> x.join(63, 62));
        due.refuses("join with no version", ARGUMENT, scene, x -> x.join(63, 64));
    }
}
