import java.lang.reflect.Array;
import java.lang.reflect.Field;
import java.lang.reflect.Modifier;
import java.util.ArrayDeque;
import java.util.Collections;
import java.util.Deque;
import java.util.IdentityHashMap;
import java.util.Set;

/**
 * What an object holds fits into the one room that all calls of a run have, even if each of them made
 * a new object; and it does not grow. That no call makes more than its exception is LanguageTest's.
 */
public final class RoomTest {
    private static final int CALLS = 512;
    private static final int MOST_OBJECTS = 600_000;
    private static final int MOST_ELEMENTS = 7_300_000;

    private int objects = 0;
    private int elements = 0;

    private RoomTest() {
    }

    public static void main(String[] args) throws IllegalAccessException {
        Answers answers = new Answers();
        GeneBook book = new GeneBook();
        RoomTest fresh = new RoomTest();
        fresh.count(book);
        answers.due("objects are counted", true, fresh.objects > 1 && fresh.elements > fresh.objects);
        answers.due(CALLS + " times " + fresh.objects + " objects fit", true, CALLS * fresh.objects <= MOST_OBJECTS);
        answers.due(CALLS + " times " + fresh.elements + " elements fit", true,
                CALLS * fresh.elements <= MOST_ELEMENTS);
        use(book);
        RoomTest used = new RoomTest();
        used.count(book);
        answers.due("objects behind the calls", fresh.objects, used.objects);
        answers.due("elements behind the calls", fresh.elements, used.elements);
        answers.end();
    }

    /** A full sequence, a full line and a full book, all told, counted and written. */
    private static void use(GeneBook book) {
        Texts.bases(book, "ATGTAATTACAT".repeat(10));
        Texts.add(book, Texts.tabs("c . gene 1 120 . + . ID=g"));
        Texts.add(book, Texts.tabs("c . mRNA 1 120 . + . ID=m;PARENT=g"));
        Texts.add(book, Texts.tabs("c . exon 1 120 . + . PARENT=m"));
        Texts.add(book, Texts.tabs("c . CDS 1 120 . + 0 PARENT=m"));
        for (int i = 4; i < 14; i++) {
            Texts.add(book, Texts.tabs("c . gene 1 120 . + . ID=g" + i));
        }
        Texts.type(book, "x".repeat(72));
        for (int code = 0; code < 3; code++) {
            book.tell(1, code);
        }
        book.frames(1, 0);
        book.frame(2, 0, 0, 0);
        book.write();
        Answers.of(book::add);
    }

    private void count(Object first) throws IllegalAccessException {
        Set<Object> seen = Collections.newSetFromMap(new IdentityHashMap<>());
        Deque<Object> left = new ArrayDeque<>();
        left.add(first);
        while (!left.isEmpty()) {
            Object one = left.remove();
            if (seen.add(one)) {
                objects++;
                if (one.getClass().isArray()) {
                    countArray(one, left);
                } else {
                    countFields(one, left);
                }
            }
        }
    }

    private void countArray(Object array, Deque<Object> left) {
        elements += Array.getLength(array);
        if (!array.getClass().getComponentType().isPrimitive()) {
            for (Object element : (Object[]) array) {
                left.add(element);
            }
        }
    }

    private void countFields(Object one, Deque<Object> left) throws IllegalAccessException {
        for (Field field : one.getClass().getDeclaredFields()) {
            if (!Modifier.isStatic(field.getModifiers())) {
                elements++;
                field.setAccessible(true);
                if (!field.getType().isPrimitive()) {
                    left.add(field.get(one));
                }
            }
        }
    }
}
