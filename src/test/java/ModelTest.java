import java.util.ArrayList;
import java.util.Collections;
import java.util.List;
import java.util.NoSuchElementException;
import java.util.Random;
import java.util.TreeMap;

/**
 * Long runs of mixed calls, right and wrong, against a plain model with the library's collections.
 * The seeds are written down, so every run is the same each time.
 */
final class ModelTest {
    private static final int RUNS = 600;
    private static final int[] FORMS = Scenes.FORMS;

    public static void main(String[] args) {
        Due due = new Due();
        for (int run = 0; run < RUNS; run++) {
            new ModelTest(due, run).runCalls();
        }
        due.end();
    }

    /** A version of the model; only maps use the tree map. */
    private record Shape(int kind, int form, List<Integer> row, TreeMap<Integer, Integer> map) {
        List<Integer> elements() {
            return kind == 3 ? new ArrayList<>(map.values()) : row;
        }
    }

    private final Due due;
    private final int run;
    private final Random random;
    private final Counted tested = new Counted();
    private final List<Shape> shapes = new ArrayList<>();

    private ModelTest(Due due, int run) {
        this.due = due;
        this.run = run;
        this.random = new Random(run);
    }

    private void runCalls() {
        // Some runs join often, so that versions with about 100 elements come up.
        int joins = run % 3 == 0 ? 40 : 5;
        int leftForTheEnd = run % 4 == 0 ? 0 : 300;
        while (tested.callsLeft() > leftForTheEnd) {
            int drawn = random.nextInt(100);
            if (drawn < joins) {
                callJoin();
            } else {
                callOther(random.nextInt(run % 2 == 0 ? 13 : 30));
            }
        }
        compareVersions();
    }

    private void callOther(int which) {
        int v = anyVersion();
        int x = anyElement();
        int key = random.nextInt(20) == 0 ? random.nextInt(600) - 200 : random.nextInt(8) * 36;
        int i = random.nextInt(8) == 0 ? anyElement() : random.nextInt(12) - 1;
        switch (which) {
            case 0 -> callEmpty();
            case 1, 2, 3 -> compare("add " + v + " " + x, () -> tested.add(v, x), () -> add(v, x));
            case 4 -> compare("rest " + v, () -> tested.rest(v), () -> rest(v));
            case 5, 6 -> compare("bind " + v + " " + key + " " + x,
                    () -> tested.bind(v, key, x), () -> bind(v, key, x));
            case 7 -> compare("update " + v + " " + i + " " + x,
                    () -> tested.update(v, i, x), () -> update(v, i, x));
            case 8 -> compare("size " + v, () -> tested.size(v), () -> found(v).elements().size());
            case 9 -> compare("parts " + v, () -> tested.parts(v), () -> parts(found(v)));
            case 10 -> compare("kind " + v, () -> tested.kind(v),
                    () -> 10 * found(v).kind() + found(v).form());
            case 11 -> compare("versions", tested::versions, shapes::size);
            case 12, 13, 14, 15 -> compare("first " + v, () -> tested.first(v), () -> first(v));
            case 16, 17, 18, 19, 20 -> compare("value " + v + " " + key,
                    () -> tested.value(v, key), () -> value(v, key));
            default -> compare("at " + v + " " + i, () -> tested.at(v, i), () -> at(v, i));
        }
    }

    private void callEmpty() {
        int kind = random.nextInt(8) - 1;
        int form = random.nextInt(5) - 1;
        compare("empty " + kind + " " + form,
                () -> tested.empty(kind, form), () -> empty(kind, form));
    }

    private void callJoin() {
        int v = anyVersion();
        int w = random.nextInt(3) == 0 ? anyVersion() : v;
        compare("join " + v + " " + w, () -> tested.join(v, w), () -> join(v, w));
    }

    private int anyVersion() {
        if (random.nextInt(25) == 0) {
            return random.nextInt(200) - 60;
        }
        int count = Math.max(1, shapes.size());
        return random.nextBoolean() ? count - 1 - random.nextInt(Math.min(3, count)) : random.nextInt(count);
    }

    private int anyElement() {
        return random.nextInt(4) == 0 ? random.nextInt() : random.nextInt(21) - 10;
    }

    private void compare(String told, Due.Call real, Due.Call model) {
        due.same("run " + run + ": " + told, Due.outcome(model), Due.outcome(real));
    }

    /** As many versions as there are calls left for, whole, from any one on. */
    private void compareVersions() {
        int from = random.nextInt(64);
        for (int i = 0; i < shapes.size(); i++) {
            int v = (from + i) % shapes.size();
            if (tested.callsLeft() >= shapes.get(v).elements().size() + 2) {
                compareVersion(v);
            }
        }
    }

    private void compareVersion(int v) {
        List<Integer> row = shapes.get(v).elements();
        compare("at the end: size " + v, () -> tested.size(v), row::size);
        compare("at the end: parts " + v, () -> tested.parts(v), () -> parts(shapes.get(v)));
        for (int place = 0; place < row.size(); place++) {
            int i = place;
            compare("at the end: at " + v + " " + i, () -> tested.at(v, i), () -> row.get(i));
        }
    }

    private Shape found(int v) {
        demand(v >= 0 && v < shapes.size(), new IllegalArgumentException());
        return shapes.get(v);
    }

    private static void demand(boolean what, RuntimeException otherwise) {
        if (!what) {
            throw otherwise;
        }
    }

    private void demandRoom(int elements) {
        demand(shapes.size() < 64 && elements <= 100, new IllegalStateException());
    }

    private int keep(Shape old, List<Integer> row) {
        if (old.kind() == 1) {
            Collections.sort(row);
        }
        shapes.add(new Shape(old.kind(), old.form(), row, null));
        return shapes.size() - 1;
    }

    private int empty(int kind, int form) {
        demand(kind >= 0 && kind <= 4, new IllegalArgumentException());
        demand(form >= 0 && form < FORMS[kind], new IllegalArgumentException());
        demandRoom(0);
        shapes.add(new Shape(kind, form, new ArrayList<>(), new TreeMap<>()));
        return shapes.size() - 1;
    }

    private int add(int v, int x) {
        Shape old = found(v);
        demand(old.kind() != 3, new IllegalArgumentException());
        demandRoom(old.row().size() + 1);
        List<Integer> row = new ArrayList<>(old.row());
        row.add(old.kind() == 2 ? 0 : row.size(), x);
        return keep(old, row);
    }

    private int first(int v) {
        Shape old = found(v);
        demand(old.kind() != 3, new IllegalArgumentException());
        demand(!old.row().isEmpty(), new NoSuchElementException());
        return old.row().get(0);
    }

    private int rest(int v) {
        Shape old = found(v);
        demand(old.kind() != 3, new IllegalArgumentException());
        demandRoom(0);
        demand(!old.row().isEmpty(), new NoSuchElementException());
        List<Integer> row = new ArrayList<>(old.row());
        row.remove(0);
        return keep(old, row);
    }

    private int join(int v, int w) {
        Shape left = found(v);
        Shape right = found(w);
        demand(left.kind() == 1 || left.kind() == 4, new IllegalArgumentException());
        demand(left.kind() == right.kind(), new IllegalArgumentException());
        demand(left.form() == right.form(), new IllegalArgumentException());
        demandRoom(left.row().size() + right.row().size());
        List<Integer> row = new ArrayList<>(left.row());
        row.addAll(right.row());
        return keep(left, row);
    }

    private int bind(int v, int key, int x) {
        Shape old = found(v);
        demand(old.kind() == 3, new IllegalArgumentException());
        demand(key >= 0 && key <= 255, new IllegalArgumentException());
        TreeMap<Integer, Integer> map = new TreeMap<>(old.map());
        map.put(key, x);
        demandRoom(map.size());
        shapes.add(new Shape(3, old.form(), null, map));
        return shapes.size() - 1;
    }

    private int value(int v, int key) {
        Shape old = found(v);
        demand(old.kind() == 3, new IllegalArgumentException());
        demand(old.map().containsKey(key), new NoSuchElementException());
        return old.map().get(key);
    }

    private int update(int v, int i, int x) {
        Shape old = found(v);
        demand(old.kind() == 2, new IllegalArgumentException());
        demandRoom(0);
        demand(i >= 0 && i < old.row().size(), new IndexOutOfBoundsException());
        List<Integer> row = new ArrayList<>(old.row());
        row.set(i, x);
        return keep(old, row);
    }

    private int at(int v, int i) {
        List<Integer> row = found(v).elements();
        demand(i >= 0 && i < row.size(), new IndexOutOfBoundsException());
        return row.get(i);
    }

    private static int parts(Shape shape) {
        int size = shape.elements().size();
        int kindAndForm = 10 * shape.kind() + shape.form();
        return switch (kindAndForm) {
            case 20 -> fewestTrees(size);
            case 11, 21 -> (int) Integer.toBinaryString(size).chars().filter(c -> c == '1').count();
            default -> size == 0 ? 0 : 1;
        };
    }

    private static int fewestTrees(int size) {
        int[] fewest = new int[size + 1];
        for (int n = 1; n <= size; n++) {
            fewest[n] = n;
            for (int tree = 1; tree <= n; tree = 2 * tree + 1) {
                fewest[n] = Math.min(fewest[n], fewest[n - tree] + 1);
            }
        }
        return fewest[size];
    }
}
