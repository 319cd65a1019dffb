import java.util.Arrays;
import java.util.NoSuchElementException;

/** A bridge for video conferences; ../shared/DOC.md promises what each call answers. */
public final class VideoBridge {
    private static final int MOST_PEOPLE = 10;
    private static final int MOST_ROOMS = 6;
    private static final int MOST_RECORDERS = 8;
    private static final int MOST_BUDGET = 9999;
    private static final int MOST_LOUDNESS = 99;
    private static final int MOST_TICKS = 2000;
    private static final int MOST_TICKS_AT_ONCE = 60;
    private static final int TOP_LAYER = 3;
    private static final int[] NEEDS = {0, 100, 400, 1600};
    private static final int HEARD_FROM = 10;
    private static final int LOUDER_BY = 5;
    private static final int HOLD = 3;
    private static final int NOBODY = -1;
    private static final int FIRST_ROW_LENGTH = 16;

    private final Person[] everybody = new Person[MOST_PEOPLE];
    private final Room[] allRooms = new Room[MOST_ROOMS];
    private final Recorder[] recorders = new Recorder[MOST_RECORDERS];
    private final Row turns = new Row(MOST_TICKS * MOST_ROOMS);
    private final Chooser chooser = new Chooser();
    private int peopleCount;
    private int roomCount;
    private int recorderCount;
    private int ticksPassed;
    private long usedByAll;
    private long sentSoFar;

    public VideoBridge() {
    }

    // People and rooms

    public int addPerson(int budget) throws IllegalArgumentException, IllegalStateException {
        requireUpTo(MOST_BUDGET, budget);
        int number = peopleCount;
        if (number < 0 || number >= everybody.length) {
            throw new IllegalStateException("there are no more people");
        }
        everybody[number] = new Person(number, budget);
        peopleCount = number + 1;
        return number;
    }

    public int setBudget(int person, int budget) throws NoSuchElementException, IllegalArgumentException {
        Person changed = personOf(person);
        requireUpTo(MOST_BUDGET, budget);
        int before = changed.budget;
        changed.budget = budget;
        chooseViews();
        return before;
    }

    public int setSends(int person, int layer) throws NoSuchElementException, IllegalArgumentException {
        Person changed = personOf(person);
        requireUpTo(TOP_LAYER, layer);
        int before = changed.sends;
        changed.sends = layer;
        chooseViews();
        return before;
    }

    public int setLoud(int person, int loudness) throws NoSuchElementException, IllegalArgumentException {
        Person changed = personOf(person);
        requireUpTo(MOST_LOUDNESS, loudness);
        int before = changed.loudness;
        changed.loudness = loudness;
        return before;
    }

    public int addRoom() throws IllegalStateException {
        if (!isRoomLeft()) {
            throw new IllegalStateException("there are no more rooms");
        }
        return openRoom().number;
    }

    public int enter(int person, int room)
            throws NoSuchElementException, IndexOutOfBoundsException, IllegalStateException {
        Person coming = personOf(person);
        Room entered = roomNumbered(room);
        if (coming.room == entered) {
            throw new IllegalStateException("the person is in this room");
        }
        move(coming, entered);
        settle();
        return entered.size;
    }

    public int leave(int person) throws NoSuchElementException, IllegalStateException {
        Person going = personOf(person);
        Room left = going.room;
        if (left == null) {
            throw new IllegalStateException("the person is in no room");
        }
        move(going, null);
        settle();
        return left.number;
    }

    public int split(int room) throws IndexOutOfBoundsException, IllegalStateException {
        Room whole = roomNumbered(room);
        if (whole.size < 2 || !isRoomLeft()) {
            throw new IllegalStateException("the room cannot be split");
        }
        Room fresh = openRoom();
        // Each one who goes lets the others close up, so the next to go stands one further, not two.
        for (int i = 1; i < MOST_PEOPLE; i++) {
            Person going = whole.at(i);
            if (going != null) {
                move(going, fresh);
            }
        }
        settle();
        return fresh.number;
    }

    public int join(int room, int other) throws IndexOutOfBoundsException, IllegalArgumentException {
        Room emptied = roomNumbered(room);
        Room filled = roomNumbered(other);
        if (emptied == filled) {
            throw new IllegalArgumentException("both rooms are the same");
        }
        for (int i = 0; i < MOST_PEOPLE; i++) {
            Person going = emptied.at(0);
            if (going != null) {
                move(going, filled);
            }
        }
        for (Recorder recorder : recorders) {
            if (recorder != null && recorder.followed == emptied) {
                recorder.followed = filled;
            }
        }
        settle();
        return filled.size;
    }

    public int pin(int viewer, int person)
            throws NoSuchElementException, IllegalArgumentException, UnsupportedOperationException {
        Person looking = personOf(viewer);
        Person pinned = personOf(person);
        if (looking == pinned) {
            throw new IllegalArgumentException("both are the same");
        }
        if (!areTogether(looking, pinned)) {
            throw new UnsupportedOperationException("both are not in the same room");
        }
        int before = numberOf(looking.pinned);
        looking.pinned = pinned;
        chooseViews();
        return before;
    }

    public int unpin(int viewer) throws NoSuchElementException, IllegalStateException {
        Person looking = personOf(viewer);
        Person pinned = looking.pinned;
        if (pinned == null) {
            throw new IllegalStateException("nobody is pinned");
        }
        looking.pinned = null;
        chooseViews();
        return pinned.number;
    }

    public int people() {
        return peopleCount;
    }

    public int rooms() {
        return roomCount;
    }

    public int roomOf(int person) throws NoSuchElementException, IllegalStateException {
        Room room = personOf(person).room;
        if (room == null) {
            throw new IllegalStateException("the person is in no room");
        }
        return room.number;
    }

    public int inRoom(int room) throws IndexOutOfBoundsException {
        return roomNumbered(room).size;
    }

    public int personAt(int room, int index) throws IndexOutOfBoundsException, NoSuchElementException {
        Person found = roomNumbered(room).at(index);
        if (found == null) {
            throw new NoSuchElementException("there is no such index");
        }
        return found.number;
    }

    // Ticks, speakers, turns

    public int pass(int ticks) throws IllegalArgumentException, IllegalStateException {
        if (ticks < 1 || ticks > MOST_TICKS_AT_ONCE) {
            throw new IllegalArgumentException("the number of ticks is out of range");
        }
        if (ticksPassed + ticks > MOST_TICKS) {
            throw new IllegalStateException("the tick would be too great");
        }
        int before = turns.size;
        for (int i = 0; i < ticks; i++) {
            passOneTick();
        }
        return turns.size - before;
    }

    public int tick() {
        return ticksPassed;
    }

    public int speaker(int room) throws IndexOutOfBoundsException, NoSuchElementException {
        Person speaking = roomNumbered(room).speaker;
        if (speaking == null) {
            throw new NoSuchElementException("there is no speaker");
        }
        return speaking.number;
    }

    public int challenge(int room) throws IndexOutOfBoundsException {
        return roomNumbered(room).challengeTicks;
    }

    public boolean hears(int viewer, int person) throws NoSuchElementException {
        Person hearing = personOf(viewer);
        Person heard = personOf(person);
        return hearing != heard && areTogether(hearing, heard) && heard.loudness >= HEARD_FROM;
    }

    public long talked(int person) throws NoSuchElementException {
        return personOf(person).talked;
    }

    public int changes() {
        return turns.size;
    }

    public int turnAt(int index) throws NoSuchElementException {
        if (!turns.has(index)) {
            throw new NoSuchElementException("there is no such turn");
        }
        return turns.at(index);
    }

    // Views

    public int layer(int viewer, int person) throws NoSuchElementException {
        Person looking = personOf(viewer);
        Person seen = personOf(person);
        return looking.layers.of(seen.number);
    }

    public int layerAnew(int viewer, int person) throws NoSuchElementException {
        Person looking = personOf(viewer);
        Person seen = personOf(person);
        chooser.choose(looking);
        return chooser.chosen.of(seen.number);
    }

    public int used(int viewer) throws NoSuchElementException {
        return personOf(viewer).layers.needed();
    }

    public int viewers(int person) throws NoSuchElementException {
        Person seen = personOf(person);
        int count = 0;
        for (Person looking : everybody) {
            if (looking != null && looking.layers.of(seen.number) >= 1) {
                count++;
            }
        }
        return count;
    }

    public long sent() {
        return sentSoFar;
    }

    public double meanLayer() throws ArithmeticException {
        int sum = 0;
        int pairs = 0;
        for (Person looking : everybody) {
            for (Person seen : everybody) {
                if (looking != null && seen != null && looking != seen && areTogether(looking, seen)) {
                    sum += looking.layers.of(seen.number);
                    pairs++;
                }
            }
        }
        if (pairs == 0) {
            throw new ArithmeticException("no two people are in one room");
        }
        return (double) sum / (double) pairs;
    }

    public float usedShare() throws ArithmeticException {
        int budgets = 0;
        for (Person person : everybody) {
            if (person != null) {
                budgets += person.budget;
            }
        }
        if (budgets == 0) {
            throw new ArithmeticException("the sum of all budgets is 0");
        }
        return (float) usedByAll / (float) budgets;
    }

    // Recorders

    public int record(int room) throws IndexOutOfBoundsException, IllegalStateException {
        Room followed = roomNumbered(room);
        int number = recorderCount;
        if (number < 0 || number >= recorders.length) {
            throw new IllegalStateException("there are no more recorders");
        }
        recorders[number] = new Recorder(followed);
        recorderCount = number + 1;
        return number;
    }

    public int stop(int recorder) throws NoSuchElementException, IllegalStateException {
        Recorder stopping = recorderNumbered(recorder);
        if (stopping.stopped) {
            throw new IllegalStateException("the recorder is stopped");
        }
        stopping.stopped = true;
        return stopping.notes.size;
    }

    public char stateOf(int recorder) throws NoSuchElementException {
        return recorderNumbered(recorder).stopped ? 's' : 'r';
    }

    public int follows(int recorder) throws NoSuchElementException, IllegalStateException {
        Recorder following = recorderNumbered(recorder);
        if (following.stopped) {
            throw new IllegalStateException("the recorder is stopped");
        }
        return following.followed.number;
    }

    public int noteAt(int recorder, int index) throws NoSuchElementException, IndexOutOfBoundsException {
        Row notes = recorderNumbered(recorder).notes;
        if (!notes.has(index)) {
            throw new IndexOutOfBoundsException("there is no such note");
        }
        return notes.at(index);
    }

    public boolean isApart() {
        for (Person looking : everybody) {
            if (looking != null && !isViewRight(looking)) {
                return false;
            }
        }
        for (Room room : allRooms) {
            if (room != null && room.speaker != null && room.speaker.room != room) {
                return false;
            }
        }
        return true;
    }

    private boolean isViewRight(Person looking) {
        for (Person seen : everybody) {
            if (seen != null && !areTogether(looking, seen) && looking.layers.of(seen.number) != 0) {
                return false;
            }
        }
        chooser.choose(looking);
        return looking.layers.needed() <= looking.budget && looking.layers.isSameAs(chooser.chosen);
    }

    private Person personOf(int number) {
        Person found = number < 0 || number >= everybody.length ? null : everybody[number];
        if (found == null) {
            throw new NoSuchElementException("there is no such person");
        }
        return found;
    }

    private Room roomNumbered(int number) {
        Room found = number < 0 || number >= allRooms.length ? null : allRooms[number];
        if (found == null) {
            throw new IndexOutOfBoundsException("there is no such room");
        }
        return found;
    }

    private Recorder recorderNumbered(int number) {
        Recorder found = number < 0 || number >= recorders.length ? null : recorders[number];
        if (found == null) {
            throw new NoSuchElementException("there is no such recorder");
        }
        return found;
    }

    private static void requireUpTo(int most, int value) {
        if (value < 0 || value > most) {
            throw new IllegalArgumentException("the number is out of range");
        }
    }

    private static int numberOf(Person person) {
        return person == null ? NOBODY : person.number;
    }

    private static int need(int layer) {
        return layer < 0 || layer >= NEEDS.length ? 0 : NEEDS[layer];
    }

    private static boolean areTogether(Person one, Person other) {
        return one != null && other != null && one.room != null && one.room == other.room;
    }

    private boolean isRoomLeft() {
        return roomCount < MOST_ROOMS;
    }

    private Room openRoom() {
        Room fresh = new Room(roomCount);
        if (roomCount >= 0 && roomCount < allRooms.length) {
            allRooms[roomCount] = fresh;
            roomCount++;
        }
        return fresh;
    }

    private static void move(Person person, Room to) {
        if (person.room != null) {
            person.room.letOut(person);
        }
        person.room = to;
        if (to != null) {
            to.letIn(person);
        }
    }

    /** Pins are looked at only when all have moved, so that those who move together keep theirs. */
    private void settle() {
        for (Person looking : everybody) {
            if (looking != null && !areTogether(looking, looking.pinned)) {
                looking.pinned = null;
            }
        }
        chooseViews();
    }

    private void chooseViews() {
        long used = 0;
        for (Person looking : everybody) {
            if (looking != null) {
                chooser.choose(looking);
                looking.layers.takeOver(chooser.chosen);
                used += looking.layers.needed();
            }
        }
        usedByAll = used;
    }

    private void passOneTick() {
        ticksPassed++;
        if (takeTurns()) {
            chooseViews();
        }
        for (Room room : allRooms) {
            if (room != null && room.speaker != null) {
                room.speaker.talked++;
            }
        }
        for (Recorder recorder : recorders) {
            if (recorder != null && !recorder.stopped) {
                recorder.notes.put(numberOf(recorder.followed.speaker));
            }
        }
        sentSoFar += usedByAll;
    }

    private boolean takeTurns() {
        boolean changed = false;
        for (Room room : allRooms) {
            if (room != null && room.passTick()) {
                turns.put(10 * room.number + numberOf(room.speaker));
                changed = true;
            }
        }
        return changed;
    }

    private static final class Person {
        final int number;
        final Layers layers = new Layers();
        int budget;
        int sends;
        int loudness;
        long talked;
        Room room;
        Person pinned;

        Person(int number, int budget) {
            this.number = number;
            this.budget = budget;
        }
    }

    private static final class Room {
        final int number;
        private final Person[] order = new Person[MOST_PEOPLE];
        int size;
        Person speaker;
        Person challenger;
        int challengeTicks;

        Room(int number) {
            this.number = number;
        }

        Person at(int index) {
            return index < 0 || index >= size || index >= order.length ? null : order[index];
        }

        void letIn(Person person) {
            if (size >= 0 && size < order.length) {
                order[size] = person;
                size++;
            }
        }

        void letOut(Person person) {
            int place = placeOf(person);
            if (place < 0) {
                return;
            }
            for (int i = place; i + 1 < size && i + 1 < order.length; i++) {
                order[i] = order[i + 1];
            }
            size--;
            if (speaker == person) {
                speaker = null;
            }
            if (challenger == person) {
                endChallenge();
            }
        }

        private int placeOf(Person person) {
            for (int i = 0; i < size; i++) {
                if (at(i) == person) {
                    return i;
                }
            }
            return -1;
        }

        /** Answers whether there was a turn, since views hang on who is the speaker. */
        boolean passTick() {
            Person candidate = candidate();
            if (speaker == null) {
                endChallenge();
                speaker = candidate;
                return candidate != null;
            }
            if (!isLouderThanSpeaker(candidate)) {
                endChallenge();
                return false;
            }
            challengeTicks = candidate == challenger ? challengeTicks + 1 : 1;
            challenger = candidate;
            if (challengeTicks < HOLD) {
                return false;
            }
            speaker = candidate;
            endChallenge();
            return true;
        }

        private Person candidate() {
            Person loudest = null;
            for (int i = 0; i < size; i++) {
                Person person = at(i);
                if (person != null && (loudest == null || person.loudness > loudest.loudness)) {
                    loudest = person;
                }
            }
            return loudest != null && loudest.loudness >= HEARD_FROM ? loudest : null;
        }

        private boolean isLouderThanSpeaker(Person candidate) {
            return candidate != null && speaker != null
                    && candidate.loudness >= speaker.loudness + LOUDER_BY;
        }

        private void endChallenge() {
            challenger = null;
            challengeTicks = 0;
        }
    }

    private static final class Recorder {
        final Row notes = new Row(MOST_TICKS);
        Room followed;
        boolean stopped;

        Recorder(Room followed) {
            this.followed = followed;
        }
    }

    /** The layers in which one person sees each other one, by the number of that one. */
    private static final class Layers {
        private final int[] row = new int[MOST_PEOPLE];

        int of(int number) {
            return number < 0 || number >= row.length ? 0 : row[number];
        }

        void set(int number, int layer) {
            if (number >= 0 && number < row.length) {
                row[number] = layer;
            }
        }

        void clear() {
            Arrays.fill(row, 0);
        }

        void takeOver(Layers other) {
            for (int i = 0; i < row.length; i++) {
                row[i] = other.of(i);
            }
        }

        boolean isSameAs(Layers other) {
            for (int i = 0; i < row.length; i++) {
                if (row[i] != other.of(i)) {
                    return false;
                }
            }
            return true;
        }

        int needed() {
            int sum = 0;
            for (int layer : row) {
                sum += need(layer);
            }
            return sum;
        }
    }

    /** Finds anew in which layers a person sees the others; its rows serve every choice. */
    private static final class Chooser {
        final Layers chosen = new Layers();
        private final Person[] line = new Person[MOST_PEOPLE];
        private int lineLength;
        private int left;

        void choose(Person viewer) {
            chosen.clear();
            left = viewer.budget;
            lineUp(viewer);
            takeForAll(1);
            take(inLine(0), 2);
            take(inLine(0), 3);
            takeForAll(2);
            takeForAll(3);
        }

        private void lineUp(Person viewer) {
            lineLength = 0;
            Room room = viewer.room;
            if (room == null) {
                return;
            }
            Person first = viewer.pinned != null ? viewer.pinned : room.speaker;
            append(first, viewer);
            for (int i = 0; i < room.size; i++) {
                Person other = room.at(i);
                if (other != first) {
                    append(other, viewer);
                }
            }
        }

        private void append(Person other, Person viewer) {
            if (other != null && other != viewer && lineLength >= 0 && lineLength < line.length) {
                line[lineLength] = other;
                lineLength++;
            }
        }

        private Person inLine(int place) {
            return place < 0 || place >= lineLength || place >= line.length ? null : line[place];
        }

        private void takeForAll(int layer) {
            for (int i = 0; i < lineLength; i++) {
                take(inLine(i), layer);
            }
        }

        private void take(Person other, int layer) {
            if (other == null || chosen.of(other.number) != layer - 1 || other.sends < layer) {
                return;
            }
            int more = need(layer) - need(layer - 1);
            if (more <= left) {
                left -= more;
                chosen.set(other.number, layer);
            }
        }
    }

    /** Numbers in the order in which they came; it grows, since most rows stay far below their limit. */
    private static final class Row {
        private final int limit;
        private int[] numbers = new int[FIRST_ROW_LENGTH];
        int size;

        Row(int limit) {
            this.limit = limit;
        }

        void put(int number) {
            if (size >= numbers.length) {
                grow();
            }
            if (size >= 0 && size < numbers.length) {
                numbers[size] = number;
                size++;
            }
        }

        private void grow() {
            int longer = Math.min(2 * numbers.length, limit);
            if (longer > numbers.length) {
                numbers = Arrays.copyOf(numbers, longer);
            }
        }

        boolean has(int index) {
            return index >= 0 && index < size;
        }

        int at(int index) {
            return index < 0 || index >= size || index >= numbers.length ? 0 : numbers[index];
        }
    }
}
