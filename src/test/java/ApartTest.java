import java.lang.reflect.Array;
import java.lang.reflect.Field;

/**
 * Promise 38: that isApart sees each fault it names. No call leads to one of them, so these tests reach into the object
 * and spoil it; whoever names its fields otherwise mends the names here.
 */
public final class ApartTest extends Edges {
    public static void main(String[] args) throws ReflectiveOperationException {
        run(ApartTest.class);
    }

    /** The people 0 and 1, who can pay for all layers, in the room 0, and the person 2 in the room 1. */
    private static VideoBridge sound() {
        VideoBridge x = Bridges.oneRoom(3);
        x.enter(2, x.addRoom());
        x.setLoud(0, 10);
        x.pass(1);
        answers(true, () -> x.isApart());
        return x;
    }

    private static Object person(VideoBridge x, int number) throws ReflectiveOperationException {
        return Array.get(get(x, "everybody"), number);
    }

    private static Object room(VideoBridge x, int number) throws ReflectiveOperationException {
        return Array.get(get(x, "allRooms"), number);
    }

    private static void setKeptLayer(VideoBridge x, int viewer, int person, int layer)
            throws ReflectiveOperationException {
        Array.setInt(get(get(person(x, viewer), "layers"), "row"), person, layer);
    }

    private static Object get(Object owner, String name) throws ReflectiveOperationException {
        return field(owner, name).get(owner);
    }

    private static Field field(Object owner, String name) throws ReflectiveOperationException {
        Field field = owner.getClass().getDeclaredField(name);
        field.setAccessible(true);
        return field;
    }

    @Sentence(of = 38, says = "nobody sees somebody who is not in the same room")
    static void seesOneOfAnotherRoom() throws ReflectiveOperationException {
        VideoBridge x = sound();
        setKeptLayer(x, 0, 2, 1);
        answers(false, () -> x.isApart());
    }

    @Sentence(of = 38, says = "nobody uses more than the budget")
    static void usesMoreThanTheBudget() throws ReflectiveOperationException {
        VideoBridge x = sound();
        field(person(x, 0), "budget").setInt(person(x, 0), 1600);
        answers(true, () -> x.isApart());
        field(person(x, 0), "budget").setInt(person(x, 0), 1599);
        answers(false, () -> x.isApart());
    }

    @Sentence(of = 38, says = "all layers are the same anew")
    static void keepsOtherLayersThanThoseFoundAnew() throws ReflectiveOperationException {
        VideoBridge x = sound();
        setKeptLayer(x, 1, 0, 2);
        answers(false, () -> x.isApart());
        setKeptLayer(x, 1, 0, 3);
        answers(true, () -> x.isApart());
    }

    @Sentence(of = 38, says = "each speaker is in its room")
    static void speakerIsInAnotherRoom() throws ReflectiveOperationException {
        VideoBridge x = sound();
        field(room(x, 1), "speaker").set(room(x, 1), person(x, 2));
        answers(true, () -> x.isApart());
        int empty = x.addRoom();
        field(room(x, empty), "speaker").set(room(x, empty), person(x, 0));
        answers(false, () -> x.isApart());
    }
}
