/** Makes bridges for tests. */
final class Bridges {
    static final int RICH = 9999;

    private Bridges() {
    }

    /** People 0 to people - 1, rich and sending all, all in the room 0 in this order. */
    static VideoBridge oneRoom(int people) {
        VideoBridge x = new VideoBridge();
        x.addRoom();
        for (int i = 0; i < people; i++) {
            x.addPerson(RICH);
            x.setSends(i, 3);
            x.enter(i, 0);
        }
        return x;
    }

    /** Something of everything: a speaker, a challenger of 2 ticks, pins, notes, and a person and a room left alone. */
    static VideoBridge busy() {
        VideoBridge x = oneRoom(4);
        x.addPerson(250);
        x.addRoom();
        x.record(0);
        x.record(1);
        x.setLoud(0, 20);
        x.pass(1);
        x.stop(1);
        x.setLoud(1, 40);
        x.pass(2);
        x.setBudget(0, 1750);
        x.setBudget(1, 700);
        x.setSends(2, 2);
        x.pin(2, 3);
        x.pin(0, 1);
        return x;
    }

    /** As many people, rooms, recorders and ticks as may be, with speakers, a challenger and a pin. */
    static VideoBridge full() {
        VideoBridge x = oneRoom(10);
        x.split(0);
        for (int room = 2; room < 6; room++) {
            x.addRoom();
        }
        for (int recorder = 0; recorder < 8; recorder++) {
            x.record(recorder % 6);
        }
        x.setLoud(4, 10);
        x.setLoud(9, 30);
        while (x.tick() < 1980) {
            x.pass(60);
        }
        x.pass(18);
        x.setLoud(2, 15);
        x.pass(2);
        x.pin(0, 8);
        return x;
    }

    /** The people of a room as digits in their order. */
    static String order(VideoBridge x, int room) {
        StringBuilder digits = new StringBuilder();
        for (int i = 0; i < x.inRoom(room); i++) {
            digits.append(x.personAt(room, i));
        }
        return digits.toString();
    }

    /** The layers in which one sees the first people, as digits, as kept. */
    static String layers(VideoBridge x, int viewer, int people) {
        StringBuilder digits = new StringBuilder();
        for (int i = 0; i < people; i++) {
            digits.append(x.layer(viewer, i));
        }
        return digits.toString();
    }

    /** The same, found anew. */
    static String layersAnew(VideoBridge x, int viewer, int people) {
        StringBuilder digits = new StringBuilder();
        for (int i = 0; i < people; i++) {
            digits.append(x.layerAnew(viewer, i));
        }
        return digits.toString();
    }
}
