import java.util.NoSuchElementException;

/** Promises 1 to 17. */
public final class PeopleAndRoomsTest {
    private static final Class<NoSuchElementException> NONE = NoSuchElementException.class;
    private static final Class<IllegalArgumentException> ARGUMENT = IllegalArgumentException.class;
    private static final Class<IllegalStateException> STATE = IllegalStateException.class;
    private static final Class<IndexOutOfBoundsException> INDEX = IndexOutOfBoundsException.class;
    private static final Class<UnsupportedOperationException> UNSUPPORTED = UnsupportedOperationException.class;
    private static final int[] FAR = {-1, 10, 99, Integer.MIN_VALUE, Integer.MAX_VALUE};

    public static void main(String[] args) {
        promise01NewObject();
        promise02AddPerson();
        promise03SetBudget();
        promise04SetSends();
        promise05SetLoud();
        promise06AddRoom();
        promise07Enter();
        promise08Leave();
        promise09Split();
        promise10Join();
        promise11Pin();
        pinsEndAndLast();
        promise12Unpin();
        promises13And14Counts();
        promise15RoomOf();
        promise16InRoom();
        promise17PersonAt();
        Check.end();
    }

    private static void promise01NewObject() {
        VideoBridge x = new VideoBridge();
        Check.answers(0, () -> x.people());
        Check.answers(0, () -> x.rooms());
        Check.answers(0, () -> x.tick());
        Check.answers(0, () -> x.changes());
        Check.answers(0L, () -> x.sent());
        Check.answers(true, () -> x.isApart());
        Check.refuses(NONE, () -> x.stateOf(0));
        x.addPerson(5);
        x.addRoom();
        x.pass(7);
        VideoBridge other = new VideoBridge();
        Check.answers(0, () -> other.people());
        Check.answers(0, () -> other.rooms());
        Check.answers(0, () -> other.tick());
    }

    private static void promise02AddPerson() {
        VideoBridge x = new VideoBridge();
        Check.refuses(ARGUMENT, () -> x.addPerson(-1));
        Check.refuses(ARGUMENT, () -> x.addPerson(10000));
        Check.refuses(ARGUMENT, () -> x.addPerson(Integer.MIN_VALUE));
        Check.refuses(ARGUMENT, () -> x.addPerson(Integer.MAX_VALUE));
        Check.answers(0, () -> x.people());
        Check.answers(0, () -> x.addPerson(0));
        Check.answers(1, () -> x.addPerson(9999));
        for (int i = 2; i < 10; i++) {
            int number = i;
            Check.answers(number, () -> x.addPerson(5));
        }
        Check.refuses(STATE, () -> x.addPerson(5));
        Check.refuses(ARGUMENT, () -> x.addPerson(10000));
        Check.answers(10, () -> x.people());
        Check.refuses(STATE, () -> x.roomOf(9));
        Check.answers(0, () -> x.setSends(9, 1));
        Check.answers(0, () -> x.setLoud(9, 1));
    }

    private static void promise03SetBudget() {
        VideoBridge x = Bridges.oneRoom(2);
        Check.answers(9999, () -> x.setBudget(0, 0));
        Check.answers(0, () -> x.layer(0, 1));
        Check.answers(0, () -> x.setBudget(0, 400));
        Check.answers(2, () -> x.layer(0, 1));
        Check.answers(3, () -> x.layer(1, 0));
        Check.answers(400, () -> x.setBudget(0, 9999));
        Check.refuses(ARGUMENT, () -> x.setBudget(0, -1));
        Check.refuses(ARGUMENT, () -> x.setBudget(0, 10000));
        Check.refuses(NONE, () -> x.setBudget(2, 10000));
        for (int person : FAR) {
            Check.refuses(NONE, () -> x.setBudget(person, 1));
        }
        Check.answers(9999, () -> x.setBudget(0, 7));
    }

    private static void promise04SetSends() {
        VideoBridge x = Bridges.oneRoom(2);
        Check.answers(3, () -> x.setSends(0, 1));
        Check.answers(1, () -> x.layer(1, 0));
        Check.answers(1, () -> x.setSends(0, 0));
        Check.answers(0, () -> x.layer(1, 0));
        Check.answers(0, () -> x.setSends(0, 2));
        Check.answers(2, () -> x.layer(1, 0));
        Check.answers(3, () -> x.layer(0, 1));
        Check.refuses(ARGUMENT, () -> x.setSends(0, -1));
        Check.refuses(ARGUMENT, () -> x.setSends(0, 4));
        Check.refuses(NONE, () -> x.setSends(2, 4));
        for (int person : FAR) {
            Check.refuses(NONE, () -> x.setSends(person, 1));
        }
        Check.answers(2, () -> x.setSends(0, 3));
    }

    private static void promise05SetLoud() {
        VideoBridge x = Bridges.oneRoom(2);
        Check.answers(0, () -> x.setLoud(0, 99));
        Check.answers(true, () -> x.hears(1, 0));
        Check.answers(99, () -> x.setLoud(0, 0));
        Check.answers(false, () -> x.hears(1, 0));
        Check.refuses(ARGUMENT, () -> x.setLoud(0, -1));
        Check.refuses(ARGUMENT, () -> x.setLoud(0, 100));
        Check.refuses(NONE, () -> x.setLoud(2, 100));
        for (int person : FAR) {
            Check.refuses(NONE, () -> x.setLoud(person, 1));
        }
        Check.answers(0, () -> x.setLoud(0, 1));
    }

    private static void promise06AddRoom() {
        VideoBridge x = new VideoBridge();
        for (int i = 0; i < 6; i++) {
            int number = i;
            Check.answers(number, () -> x.addRoom());
            Check.answers(0, () -> x.inRoom(number));
        }
        Check.refuses(STATE, () -> x.addRoom());
        Check.answers(6, () -> x.rooms());
    }

    private static void promise07Enter() {
        VideoBridge x = Bridges.oneRoom(3);
        x.addRoom();
        Check.answers("012", () -> Bridges.order(x, 0));
        Check.refuses(STATE, () -> x.enter(1, 0));
        Check.refuses(INDEX, () -> x.enter(1, 2));
        Check.refuses(INDEX, () -> x.enter(1, -1));
        Check.refuses(INDEX, () -> x.enter(1, 6));
        Check.refuses(INDEX, () -> x.enter(1, Integer.MAX_VALUE));
        Check.refuses(NONE, () -> x.enter(3, 2));
        for (int person : FAR) {
            Check.refuses(NONE, () -> x.enter(person, 0));
        }
        Check.answers("012", () -> Bridges.order(x, 0));
        Check.answers(1, () -> x.enter(1, 1));
        Check.answers("02", () -> Bridges.order(x, 0));
        Check.answers("1", () -> Bridges.order(x, 1));
        Check.answers(2, () -> x.enter(0, 1));
        Check.answers("10", () -> Bridges.order(x, 1));
        Check.answers(2, () -> x.enter(1, 0));
        Check.answers("21", () -> Bridges.order(x, 0));
        Check.answers(0, () -> x.layer(0, 1));
        Check.answers(3, () -> x.layer(2, 1));
    }

    private static void promise08Leave() {
        VideoBridge x = Bridges.oneRoom(3);
        x.addRoom();
        x.enter(2, 1);
        Check.answers(0, () -> x.leave(0));
        Check.answers(1, () -> x.leave(2));
        Check.answers("1", () -> Bridges.order(x, 0));
        Check.answers("", () -> Bridges.order(x, 1));
        Check.refuses(STATE, () -> x.leave(0));
        Check.refuses(NONE, () -> x.leave(3));
        for (int person : FAR) {
            Check.refuses(NONE, () -> x.leave(person));
        }
        Check.answers(2, () -> x.enter(0, 0));
        Check.answers("10", () -> Bridges.order(x, 0));
    }

    private static void promise09Split() {
        VideoBridge x = Bridges.oneRoom(7);
        x.setLoud(1, 50);
        x.pass(1);
        Check.refuses(INDEX, () -> x.split(1));
        Check.refuses(INDEX, () -> x.split(-1));
        Check.answers(1, () -> x.split(0));
        Check.answers("0246", () -> Bridges.order(x, 0));
        Check.answers("135", () -> Bridges.order(x, 1));
        Check.answers(1, () -> x.roomOf(3));
        Check.refuses(NONE, () -> x.speaker(0));
        Check.refuses(NONE, () -> x.speaker(1));
        Check.answers(0, () -> x.layer(0, 1));
        Check.answers(3, () -> x.layer(1, 3));
        Check.answers(2, () -> x.split(1));
        Check.answers("15", () -> Bridges.order(x, 1));
        Check.answers("3", () -> Bridges.order(x, 2));
        Check.refuses(STATE, () -> x.split(2));
        Check.answers(3, () -> x.split(1));
        Check.answers(4, () -> x.split(0));
        Check.answers(5, () -> x.addRoom());
        Check.refuses(STATE, () -> x.split(5));
        Check.refuses(STATE, () -> x.split(0));
        Check.refuses(INDEX, () -> x.split(6));
        Check.answers("04", () -> Bridges.order(x, 0));
        Check.answers("26", () -> Bridges.order(x, 4));
        Check.answers("0", () -> Bridges.order(splitOf(2), 0));
        Check.answers("1", () -> Bridges.order(splitOf(2), 1));
        Check.answers("02468", () -> Bridges.order(splitOf(10), 0));
        Check.answers("13579", () -> Bridges.order(splitOf(10), 1));
    }

    private static VideoBridge splitOf(int people) {
        VideoBridge x = Bridges.oneRoom(people);
        x.split(0);
        return x;
    }

    private static void promise10Join() {
        VideoBridge x = Bridges.oneRoom(5);
        x.split(0);
        x.record(1);
        x.setLoud(1, 50);
        x.setLoud(2, 40);
        x.pass(1);
        Check.refuses(INDEX, () -> x.join(0, 2));
        Check.refuses(INDEX, () -> x.join(2, 0));
        Check.refuses(INDEX, () -> x.join(2, 2));
        Check.refuses(INDEX, () -> x.join(-1, 0));
        Check.refuses(ARGUMENT, () -> x.join(1, 1));
        Check.answers(5, () -> x.join(1, 0));
        Check.answers("02413", () -> Bridges.order(x, 0));
        Check.answers(0, () -> x.inRoom(1));
        Check.answers(2, () -> x.speaker(0));
        Check.refuses(NONE, () -> x.speaker(1));
        Check.answers(0, () -> x.follows(0));
        Check.answers(3, () -> x.layer(0, 3));
        Check.answers(5, () -> x.join(1, 0));
        Check.answers(5, () -> x.join(0, 1));
        Check.answers("02413", () -> Bridges.order(x, 1));
        Check.answers(1, () -> x.follows(0));
        Check.answers(2, () -> x.rooms());
    }

    private static void promise11Pin() {
        VideoBridge x = Bridges.oneRoom(3);
        x.addPerson(5);
        x.addPerson(5);
        x.setBudget(0, 1700);
        Check.answers("031", () -> Bridges.layers(x, 0, 3));
        Check.answers(-1, () -> x.pin(0, 2));
        Check.answers("013", () -> Bridges.layers(x, 0, 3));
        Check.answers(2, () -> x.pin(0, 2));
        Check.answers(2, () -> x.pin(0, 1));
        Check.answers("031", () -> Bridges.layers(x, 0, 3));
        Check.refuses(ARGUMENT, () -> x.pin(0, 0));
        Check.refuses(ARGUMENT, () -> x.pin(3, 3));
        Check.refuses(UNSUPPORTED, () -> x.pin(0, 3));
        Check.refuses(UNSUPPORTED, () -> x.pin(3, 0));
        Check.refuses(UNSUPPORTED, () -> x.pin(3, 4));
        Check.refuses(NONE, () -> x.pin(0, 5));
        Check.refuses(NONE, () -> x.pin(5, 0));
        Check.refuses(NONE, () -> x.pin(5, 5));
        for (int person : FAR) {
            Check.refuses(NONE, () -> x.pin(person, 0));
            Check.refuses(NONE, () -> x.pin(0, person));
        }
        Check.answers(1, () -> x.unpin(0));
    }

    private static void pinsEndAndLast() {
        VideoBridge x = Bridges.oneRoom(6);
        x.pin(1, 3);
        x.pin(0, 4);
        x.pin(2, 3);
        x.pin(5, 0);
        x.split(0);
        Check.answers(3, () -> x.pin(1, 5));
        Check.answers(4, () -> x.pin(0, 2));
        Check.refuses(STATE, () -> x.unpin(2));
        Check.refuses(STATE, () -> x.unpin(5));
        x.join(1, 0);
        Check.answers(5, () -> x.unpin(1));
        x.leave(2);
        x.enter(2, 0);
        Check.refuses(STATE, () -> x.unpin(0));
        x.pin(0, 2);
        x.enter(0, 1);
        x.enter(2, 1);
        Check.refuses(STATE, () -> x.unpin(0));
    }

    private static void promise12Unpin() {
        VideoBridge x = Bridges.oneRoom(3);
        x.setBudget(0, 1700);
        x.pin(0, 2);
        Check.answers(2, () -> x.unpin(0));
        Check.answers("031", () -> Bridges.layers(x, 0, 3));
        Check.refuses(STATE, () -> x.unpin(0));
        Check.refuses(STATE, () -> x.unpin(2));
        Check.refuses(NONE, () -> x.unpin(3));
        for (int person : FAR) {
            Check.refuses(NONE, () -> x.unpin(person));
        }
        Check.answers(-1, () -> x.pin(0, 1));
    }

    private static void promises13And14Counts() {
        VideoBridge x = Bridges.oneRoom(4);
        Check.answers(4, () -> x.people());
        Check.answers(1, () -> x.rooms());
        x.leave(2);
        x.split(0);
        Check.answers(4, () -> x.people());
        Check.answers(2, () -> x.rooms());
        x.join(0, 1);
        Check.answers(2, () -> x.rooms());
    }

    private static void promise15RoomOf() {
        VideoBridge x = Bridges.oneRoom(2);
        x.addRoom();
        x.enter(1, 1);
        Check.answers(0, () -> x.roomOf(0));
        Check.answers(1, () -> x.roomOf(1));
        x.leave(0);
        Check.refuses(STATE, () -> x.roomOf(0));
        Check.refuses(NONE, () -> x.roomOf(2));
        for (int person : FAR) {
            Check.refuses(NONE, () -> x.roomOf(person));
        }
    }

    private static void promise16InRoom() {
        VideoBridge x = Bridges.oneRoom(10);
        x.addRoom();
        Check.answers(10, () -> x.inRoom(0));
        Check.answers(0, () -> x.inRoom(1));
        x.enter(4, 1);
        Check.answers(9, () -> x.inRoom(0));
        Check.answers(1, () -> x.inRoom(1));
        Check.refuses(INDEX, () -> x.inRoom(2));
        Check.refuses(INDEX, () -> x.inRoom(6));
        Check.refuses(INDEX, () -> x.inRoom(-1));
        Check.refuses(INDEX, () -> x.inRoom(Integer.MIN_VALUE));
    }

    private static void promise17PersonAt() {
        VideoBridge x = Bridges.oneRoom(10);
        x.addRoom();
        for (int i = 0; i < 10; i++) {
            int index = i;
            Check.answers(index, () -> x.personAt(0, index));
        }
        Check.refuses(NONE, () -> x.personAt(0, 10));
        x.leave(0);
        x.leave(5);
        Check.answers("12346789", () -> Bridges.order(x, 0));
        Check.refuses(NONE, () -> x.personAt(0, 8));
        Check.refuses(NONE, () -> x.personAt(0, -1));
        Check.refuses(NONE, () -> x.personAt(0, Integer.MAX_VALUE));
        Check.refuses(NONE, () -> x.personAt(0, Integer.MIN_VALUE));
        Check.refuses(NONE, () -> x.personAt(1, 0));
        Check.refuses(INDEX, () -> x.personAt(2, 0));
        Check.refuses(INDEX, () -> x.personAt(2, -1));
        Check.refuses(INDEX, () -> x.personAt(-1, 0));
    }
}
