import java.lang.reflect.Method;
import java.util.ArrayList;
import java.util.Comparator;
import java.util.List;
import java.util.NoSuchElementException;

/** What the tests of edges share: each of their tests is a method that names its sentence of the document. */
abstract class Edges {
    static final Class<NoSuchElementException> NONE = NoSuchElementException.class;
    static final Class<IllegalArgumentException> ARGUMENT = IllegalArgumentException.class;
    static final Class<IllegalStateException> STATE = IllegalStateException.class;
    static final Class<IndexOutOfBoundsException> INDEX = IndexOutOfBoundsException.class;
    static final Class<UnsupportedOperationException> UNSUPPORTED = UnsupportedOperationException.class;
    static final Class<ArithmeticException> ARITHMETIC = ArithmeticException.class;

    /** A call with one number that is looked at. */
    interface Numbered {
        Object answer(VideoBridge x, int number);
    }

    static void run(Class<? extends Edges> tests) throws ReflectiveOperationException {
        for (Method test : testsOf(tests)) {
            test.invoke(null);
        }
        Check.end();
    }

    static List<Method> testsOf(Class<? extends Edges> tests) {
        List<Method> found = new ArrayList<>();
        for (Method method : tests.getDeclaredMethods()) {
            if (method.isAnnotationPresent(Sentence.class)) {
                found.add(method);
            }
        }
        found.sort(Comparator.comparing(Method::getName));
        return found;
    }

    static void answers(Object due, Check.Call call) {
        Check.answers(due, call);
    }

    static void refuses(Class<? extends RuntimeException> due, Check.Call call) {
        Check.refuses(due, call);
    }

    /** Numbers that are not from 0 to most; a narrower type would take some of them for 0. */
    static int[] outside(int most) {
        return new int[] {-1, most + 1, 1 << 16, -(1 << 16), Integer.MIN_VALUE, Integer.MAX_VALUE};
    }

    static void refusesEach(Class<? extends RuntimeException> due, int[] numbers, VideoBridge x, Numbered call) {
        for (int number : numbers) {
            refuses(due, () -> call.answer(x, number));
        }
    }

    /** Looks with nobody, with one, with some, and with as many as may exist. */
    static void refusesMissingPeople(Numbered call) {
        for (int people : new int[] {0, 1, 3, 10}) {
            refusesEach(NONE, outside(people - 1), Bridges.oneRoom(people), call);
        }
    }

    /** Looks with no room, with one, with some, and with as many as may exist; the people 0 to 2 exist. */
    static void refusesMissingRooms(Numbered call) {
        for (int rooms : new int[] {0, 1, 3, 6}) {
            refusesEach(INDEX, outside(rooms - 1), withRooms(rooms), call);
        }
    }

    /** Looks with no recorder, with one, with some, and with as many as may be started. */
    static void refusesMissingRecorders(Numbered call) {
        for (int recorders : new int[] {0, 1, 3, 8}) {
            VideoBridge x = withRooms(1);
            for (int i = 0; i < recorders; i++) {
                x.record(0);
            }
            x.pass(2);
            refusesEach(NONE, outside(recorders - 1), x, call);
        }
    }

    /** Rooms, and the people 0 to 2, who are in none. */
    static VideoBridge withRooms(int rooms) {
        VideoBridge x = new VideoBridge();
        for (int i = 0; i < rooms; i++) {
            x.addRoom();
        }
        for (int i = 0; i < 3; i++) {
            x.addPerson(Bridges.RICH);
        }
        return x;
    }

    /** Lets the ticks pass up to this one. */
    static void passUpTo(VideoBridge x, int tick) {
        while (x.tick() < tick) {
            x.pass(Math.min(60, tick - x.tick()));
        }
    }
}
