/**
 * A LastingShapes that counts its calls. Behind the 512th the document promises nothing, so a test
 * that asks for more is wrong itself and ends at once.
 */
final class Counted {
    private static final int MOST_CALLS = 512;

    /** The ends of what a map may have for keys, and what lies beside and between them. */
    private static final int[] SOME_KEYS = {0, 1, 128, 254, 255};

    /** Of a longer row only both ends are told, so that 512 calls are enough. */
    private static final int END = 4;

    private final LastingShapes shapes = new LastingShapes();
    private int calls = 0;

    private LastingShapes counted() {
        if (calls == MOST_CALLS) {
            throw new AssertionError("this test makes a call for which nothing is promised");
        }
        calls++;
        return shapes;
    }

    int callsLeft() {
        return MOST_CALLS - calls;
    }

    /** What can be seen of the whole object. */
    String all() {
        int count = versions();
        return count + " versions" + firstOnes(count);
    }

    /** What can be seen of the versions below a number. */
    String firstOnes(int count) {
        StringBuilder told = new StringBuilder();
        for (int v = 0; v < count; v++) {
            int kind = kind(v);
            int size = size(v);
            told.append("; version ").append(v).append(", kind ").append(kind);
            told.append(", parts ").append(parts(v)).append(", size ").append(size).append(':');
            for (int i = 0; i < size; i++) {
                if (i < END || i >= size - END) {
                    told.append(' ').append(at(v, i));
                }
            }
            if (kind / 10 == Scenes.MAP) {
                told.append(values(v));
            }
        }
        return told.toString();
    }

    private String values(int map) {
        StringBuilder told = new StringBuilder();
        for (int key : SOME_KEYS) {
            told.append(", of ").append(key).append(' ').append(Due.outcome(() -> value(map, key)));
        }
        return told.toString();
    }

    int empty(int kind, int form) {
        return counted().empty(kind, form);
    }

    int add(int v, int x) {
        return counted().add(v, x);
    }

    int first(int v) {
        return counted().first(v);
    }

    int rest(int v) {
        return counted().rest(v);
    }

    int join(int v, int w) {
        return counted().join(v, w);
    }

    int bind(int v, int key, int x) {
        return counted().bind(v, key, x);
    }

    int value(int v, int key) {
        return counted().value(v, key);
    }

    int update(int v, int i, int x) {
        return counted().update(v, i, x);
    }

    int at(int v, int i) {
        return counted().at(v, i);
    }

    int size(int v) {
        return counted().size(v);
    }

    int parts(int v) {
        return counted().parts(v);
    }

    int kind(int v) {
        return counted().kind(v);
    }

    int versions() {
        return counted().versions();
    }
}
