import java.util.ArrayList;
import java.util.Collections;
import java.util.List;
import java.util.NoSuchElementException;

/**
 * The document once more, with nothing kept that can be found from the rest: lists of numbers, and views found
 * whenever they are asked. ModelTest compares the class with it.
 */
public final class BridgeModel {
    private static final int[] NEED = {0, 100, 400, 1600};

    private final List<Integer> budgets = new ArrayList<>();
    private final List<Integer> sends = new ArrayList<>();
    private final List<Integer> louds = new ArrayList<>();
    private final List<Integer> pins = new ArrayList<>();
    private final List<Long> talks = new ArrayList<>();
    private final List<List<Integer>> inside = new ArrayList<>();
    private final List<Integer> speakers = new ArrayList<>();
    private final List<Integer> challengers = new ArrayList<>();
    private final List<Integer> challenges = new ArrayList<>();
    private final List<Integer> followed = new ArrayList<>();
    private final List<Boolean> stopped = new ArrayList<>();
    private final List<List<Integer>> notes = new ArrayList<>();
    private final List<Integer> turns = new ArrayList<>();
    private int ticks = 0;
    private long sent = 0;

    public int addPerson(int budget) {
        argument(budget >= 0 && budget <= 9999);
        state(budgets.size() < 10);
        budgets.add(budget);
        sends.add(0);
        louds.add(0);
        pins.add(-1);
        talks.add(0L);
        return budgets.size() - 1;
    }

    public int setBudget(int person, int budget) {
        person(person);
        argument(budget >= 0 && budget <= 9999);
        return budgets.set(person, budget);
    }

    public int setSends(int person, int layer) {
        person(person);
        argument(layer >= 0 && layer <= 3);
        return sends.set(person, layer);
    }

    public int setLoud(int person, int loudness) {
        person(person);
        argument(loudness >= 0 && loudness <= 99);
        return louds.set(person, loudness);
    }

    public int addRoom() {
        state(inside.size() < 6);
        inside.add(new ArrayList<>());
        speakers.add(-1);
        challengers.add(-1);
        challenges.add(0);
        return inside.size() - 1;
    }

    public int enter(int person, int room) {
        person(person);
        room(room);
        state(where(person) != room);
        goOut(person);
        inside.get(room).add(person);
        endPins();
        return inside.get(room).size();
    }

    public int leave(int person) {
        person(person);
        int room = where(person);
        state(room >= 0);
        goOut(person);
        endPins();
        return room;
    }

    public int split(int room) {
        room(room);
        state(inside.get(room).size() >= 2 && inside.size() < 6);
        int fresh = addRoom();
        List<Integer> all = new ArrayList<>(inside.get(room));
        for (int i = 1; i < all.size(); i += 2) {
            goOut(all.get(i));
            inside.get(fresh).add(all.get(i));
        }
        endPins();
        return fresh;
    }

    public int join(int room, int other) {
        room(room);
        room(other);
        argument(room != other);
        for (int person : new ArrayList<>(inside.get(room))) {
            goOut(person);
            inside.get(other).add(person);
        }
        Collections.replaceAll(followed, room, other);
        endPins();
        return inside.get(other).size();
    }

    public int pin(int viewer, int person) {
        person(viewer);
        person(person);
        argument(viewer != person);
        if (where(viewer) < 0 || where(viewer) != where(person)) {
            throw new UnsupportedOperationException();
        }
        return pins.set(viewer, person);
    }

    public int unpin(int viewer) {
        person(viewer);
        state(pins.get(viewer) >= 0);
        return pins.set(viewer, -1);
    }

    public int people() {
        return budgets.size();
    }

    public int rooms() {
        return inside.size();
    }

    public int roomOf(int person) {
        person(person);
        state(where(person) >= 0);
        return where(person);
    }

    public int inRoom(int room) {
        room(room);
        return inside.get(room).size();
    }

    public int personAt(int room, int index) {
        room(room);
        element(index >= 0 && index < inside.get(room).size());
        return inside.get(room).get(index);
    }

    public int pass(int count) {
        argument(count >= 1 && count <= 60);
        state(ticks + count <= 2000);
        int before = turns.size();
        for (int i = 0; i < count; i++) {
            ticks++;
            for (int room = 0; room < inside.size(); room++) {
                speak(room);
            }
            for (int i2 = 0; i2 < followed.size(); i2++) {
                if (!stopped.get(i2)) {
                    notes.get(i2).add(speakers.get(followed.get(i2)));
                }
            }
            for (int person = 0; person < budgets.size(); person++) {
                sent += used(person);
                if (speakers.contains(person)) {
                    talks.set(person, talks.get(person) + 1);
                }
            }
        }
        return turns.size() - before;
    }

    public int tick() {
        return ticks;
    }

    public int speaker(int room) {
        room(room);
        element(speakers.get(room) >= 0);
        return speakers.get(room);
    }

    public int challenge(int room) {
        room(room);
        return challenges.get(room);
    }

    public boolean hears(int viewer, int person) {
        person(viewer);
        person(person);
        return viewer != person && where(viewer) >= 0 && where(viewer) == where(person) && louds.get(person) >= 10;
    }

    public long talked(int person) {
        person(person);
        return talks.get(person);
    }

    public int changes() {
        return turns.size();
    }

    public int turnAt(int index) {
        element(index >= 0 && index < turns.size());
        return turns.get(index);
    }

    public int layer(int viewer, int person) {
        person(viewer);
        person(person);
        return view(viewer)[person];
    }

    public int layerAnew(int viewer, int person) {
        return layer(viewer, person);
    }

    public int used(int viewer) {
        person(viewer);
        return cost(view(viewer));
    }

    public int viewers(int person) {
        person(person);
        int count = 0;
        for (int viewer = 0; viewer < budgets.size(); viewer++) {
            count += layer(viewer, person) > 0 ? 1 : 0;
        }
        return count;
    }

    public long sent() {
        return sent;
    }

    public double meanLayer() {
        long sum = 0;
        long pairs = 0;
        for (List<Integer> all : inside) {
            for (int viewer : all) {
                for (int person : all) {
                    sum += layer(viewer, person);
                    pairs += viewer != person ? 1 : 0;
                }
            }
        }
        if (pairs == 0) {
            throw new ArithmeticException();
        }
        return (double) sum / (double) pairs;
    }

    public float usedShare() {
        int sum = 0;
        int all = 0;
        for (int person = 0; person < budgets.size(); person++) {
            sum += used(person);
            all += budgets.get(person);
        }
        if (all == 0) {
            throw new ArithmeticException();
        }
        return (float) sum / (float) all;
    }

    public int record(int room) {
        room(room);
        state(followed.size() < 8);
        followed.add(room);
        stopped.add(false);
        notes.add(new ArrayList<>());
        return followed.size() - 1;
    }

    public int stop(int recorder) {
        element(recorder >= 0 && recorder < followed.size());
        state(!stopped.get(recorder));
        stopped.set(recorder, true);
        return notes.get(recorder).size();
    }

    public char stateOf(int recorder) {
        element(recorder >= 0 && recorder < followed.size());
        return stopped.get(recorder) ? 's' : 'r';
    }

    public int follows(int recorder) {
        element(recorder >= 0 && recorder < followed.size());
        state(!stopped.get(recorder));
        return followed.get(recorder);
    }

    public int noteAt(int recorder, int index) {
        element(recorder >= 0 && recorder < followed.size());
        index(index >= 0 && index < notes.get(recorder).size());
        return notes.get(recorder).get(index);
    }

    public boolean isApart() {
        return true;
    }

    private int where(int person) {
        for (int room = 0; room < inside.size(); room++) {
            if (inside.get(room).contains(person)) {
                return room;
            }
        }
        return -1;
    }

    private void goOut(int person) {
        for (int room = 0; room < inside.size(); room++) {
            inside.get(room).remove((Integer) person);
            if (speakers.get(room) == person) {
                speakers.set(room, -1);
            }
            if (challengers.get(room) == person) {
                challengers.set(room, -1);
                challenges.set(room, 0);
            }
        }
    }

    private void endPins() {
        for (int viewer = 0; viewer < pins.size(); viewer++) {
            int pinned = pins.get(viewer);
            if (pinned >= 0 && (where(viewer) < 0 || where(viewer) != where(pinned))) {
                pins.set(viewer, -1);
            }
        }
    }

    private void speak(int room) {
        int candidate = -1;
        for (int person : inside.get(room)) {
            if (louds.get(person) > (candidate < 0 ? 9 : louds.get(candidate))) {
                candidate = person;
            }
        }
        int speaker = speakers.get(room);
        int count = 0;
        if (speaker < 0) {
            become(room, candidate);
        } else if (candidate >= 0 && candidate != speaker && louds.get(candidate) - louds.get(speaker) >= 5) {
            count = challengers.get(room) == candidate ? challenges.get(room) + 1 : 1;
            if (count == 3) {
                become(room, candidate);
                count = 0;
            }
        }
        challenges.set(room, count);
        challengers.set(room, count == 0 ? -1 : candidate);
    }

    private void become(int room, int person) {
        if (person >= 0) {
            speakers.set(room, person);
            turns.add(10 * room + person);
        }
    }

    private int[] view(int viewer) {
        int[] seen = new int[10];
        int room = where(viewer);
        if (room < 0) {
            return seen;
        }
        List<Integer> line = new ArrayList<>(inside.get(room));
        Integer first = pins.get(viewer) >= 0 ? pins.get(viewer) : speakers.get(room);
        if (line.remove(first)) {
            line.add(0, first);
        }
        line.remove((Integer) viewer);
        for (int person : line) {
            step(viewer, seen, person, 1);
        }
        if (!line.isEmpty()) {
            step(viewer, seen, line.get(0), 2);
            step(viewer, seen, line.get(0), 3);
        }
        for (int layer = 2; layer <= 3; layer++) {
            for (int person : line) {
                if (seen[person] == layer - 1) {
                    step(viewer, seen, person, layer);
                }
            }
        }
        return seen;
    }

    private void step(int viewer, int[] seen, int person, int layer) {
        int before = seen[person];
        seen[person] = layer;
        if (sends.get(person) < layer || cost(seen) > budgets.get(viewer)) {
            seen[person] = before;
        }
    }

    private static int cost(int[] seen) {
        int sum = 0;
        for (int layer : seen) {
            sum += NEED[layer];
        }
        return sum;
    }

    private void person(int person) {
        element(person >= 0 && person < budgets.size());
    }

    private void room(int room) {
        index(room >= 0 && room < inside.size());
    }

    private static void element(boolean fits) {
        if (!fits) {
            throw new NoSuchElementException();
        }
    }

    private static void index(boolean fits) {
        if (!fits) {
            throw new IndexOutOfBoundsException();
        }
    }

    private static void argument(boolean fits) {
        if (!fits) {
            throw new IllegalArgumentException();
        }
    }

    private static void state(boolean fits) {
        if (!fits) {
            throw new IllegalStateException();
        }
    }
}
