/** Makes bridges for tests. */
final class Bridges {
    static final int RICH = 9999;

    private Bridges() {
    }

    /** People 0 to people - 1, rich and sending all, all in the room 0 in this order. */
    static VideoBridge oneRoom(int people) {
        VideoBridge x = new VideoBridge();
        x.addRoom();
        for (int i = 0; i < people; i++) {
            x.addPerson(RICH);
            x.setSends(i, 3);
            x.enter(i, 0);
        }
        return x;
    }

    /** The people of a room as digits in their order. */
    static String order(VideoBridge x, int room) {
        StringBuilder digits = new StringBuilder();
        for (int i = 0; i < x.inRoom(room); i++) {
            digits.append(x.personAt(room, i));
        }
        return digits.toString();
    }

    /** The layers in which one sees the first people, as digits, as kept. */
    static String layers(VideoBridge x, int viewer, int people) {
        StringBuilder digits = new StringBuilder();
        for (int i = 0; i < people; i++) {
            digits.append(x.layer(viewer, i));
        }
        return digits.toString();
    }

    /** The same, found anew. */
    static String layersAnew(VideoBridge x, int viewer, int people) {
        StringBuilder digits = new StringBuilder();
        for (int i = 0; i < people; i++) {
            digits.append(x.layerAnew(viewer, i));
        }
        return digits.toString();
    }
}
