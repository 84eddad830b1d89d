import java.lang.reflect.Field;
import java.lang.reflect.Modifier;
import java.util.ArrayList;
import java.util.List;

/**
 * Puts words where no 512 calls could bring them. How the class holds its words is free, so each is looked for:
 * it is the element whose change is seen by word(plane, cell). The class must hold them in arrays of long.
 */
final class Planter {
    private static final long MARK = 0x123456789abcdefL;

    /** Which array of the object, in the order of its fields, and which element of it. */
    private record Place(int array, int index) {
    }

    private static final Place[][] PLACES = new Place[4][20];

    private Planter() {
    }

    static void plant(FadeLedger ledger, int plane, int cell, long word) {
        if (PLACES[plane][cell] == null) {
            PLACES[plane][cell] = find(plane, cell);
        }
        Place place = PLACES[plane][cell];
        arraysOf(ledger).get(place.array())[place.index()] = word;
        if (ledger.word(plane, cell) != word) {
            throw new IllegalStateException("the word was planted elsewhere");
        }
    }

    static void plantAll(FadeLedger ledger, int cell, long word) {
        for (int plane = 0; plane < 4; plane++) {
            plant(ledger, plane, cell, word);
        }
    }

    private static Place find(int plane, int cell) {
        FadeLedger probe = new FadeLedger();
        List<long[]> arrays = arraysOf(probe);
        for (int array = 0; array < arrays.size(); array++) {
            long[] words = arrays.get(array);
            for (int index = 0; index < words.length; index++) {
                long old = words[index];
                words[index] = MARK;
                if (probe.word(plane, cell) == MARK) {
                    return new Place(array, index);
                }
                words[index] = old;
            }
        }
        throw new IllegalStateException("no array of the class holds word(" + plane + ", " + cell + ")");
    }

    private static List<long[]> arraysOf(FadeLedger ledger) {
        List<long[]> arrays = new ArrayList<>();
        try {
            for (Field field : FadeLedger.class.getDeclaredFields()) {
                if (!Modifier.isStatic(field.getModifiers()) && field.getType().isArray()) {
                    field.setAccessible(true);
                    addArrays(field.get(ledger), arrays);
                }
            }
        } catch (IllegalAccessException e) {
            throw new IllegalStateException(e);
        }
        return arrays;
    }

    private static void addArrays(Object value, List<long[]> arrays) {
        if (value instanceof long[] words) {
            arrays.add(words);
        } else if (value instanceof long[][] rows) {
            for (int row = 0; row < rows.length; row++) {
                arrays.add(rows[row]);
            }
        }
    }
}
