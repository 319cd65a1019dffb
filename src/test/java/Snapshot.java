/** All that calls tell of a bridge, in one text; a refused call is told by its exception. */
final class Snapshot {
    private final VideoBridge x;
    private final StringBuilder text = new StringBuilder();

    private Snapshot(VideoBridge x) {
        this.x = x;
    }

    /** Asks alone, so that the bridge stays as it is. */
    static String asked(VideoBridge x) {
        Snapshot snapshot = new Snapshot(x);
        snapshot.askAll();
        return snapshot.text.toString();
    }

    /** Asks, and then changes the bridge, since some things are told only by what a change answers. */
    static String of(VideoBridge x) {
        Snapshot snapshot = new Snapshot(x);
        snapshot.askAll();
        snapshot.changeAll();
        return snapshot.text.toString();
    }

    private void askAll() {
        int people = x.people();
        int rooms = x.rooms();
        tell("people", () -> people);
        tell("rooms", () -> rooms);
        tell("tick", () -> x.tick());
        tell("sent", () -> x.sent());
        tell("mean", () -> x.meanLayer());
        tell("share", () -> x.usedShare());
        tell("apart", () -> x.isApart());
        for (int i = 0; i < people; i++) {
            askPerson(i, people);
        }
        for (int i = 0; i < rooms; i++) {
            int room = i;
            tell("order", () -> Bridges.order(x, room));
            tell("speaker", () -> x.speaker(room));
            tell("challenge", () -> x.challenge(room));
        }
        int turns = x.changes();
        for (int i = 0; i <= turns; i++) {
            int index = i;
            tell("turn", () -> x.turnAt(index));
        }
        for (int i = 0; i <= 8; i++) {
            askRecorder(i);
        }
    }

    private void askPerson(int person, int people) {
        tell("room", () -> x.roomOf(person));
        tell("talked", () -> x.talked(person));
        tell("used", () -> x.used(person));
        tell("viewers", () -> x.viewers(person));
        tell("layers", () -> Bridges.layers(x, person, people));
        tell("anew", () -> x.layerAnew(person, 0));
    }

    private void askRecorder(int recorder) {
        tell("state", () -> x.stateOf(recorder));
        tell("follows", () -> x.follows(recorder));
        tell("note", () -> x.noteAt(recorder, 0));
        tell("note", () -> x.noteAt(recorder, x.tick() - 1));
    }

    private void changeAll() {
        int people = x.people();
        tell("pass", () -> x.pass(1));
        for (int i = 0; i < x.rooms(); i++) {
            int room = i;
            tell("speaker", () -> x.speaker(room));
            tell("challenge", () -> x.challenge(room));
        }
        for (int i = 0; i < people; i++) {
            int person = i;
            tell("pinned", () -> x.unpin(person));
            tell("budget", () -> x.setBudget(person, 0));
            tell("sends", () -> x.setSends(person, 0));
            tell("loud", () -> x.setLoud(person, 0));
        }
        for (int i = 0; i < 8; i++) {
            int recorder = i;
            tell("notes", () -> x.stop(recorder));
        }
        tell("next person", () -> x.addPerson(0));
        tell("next recorder", () -> x.record(0));
        tell("next room", () -> x.addRoom());
    }

    private void tell(String what, Check.Call call) {
        text.append(what).append(' ');
        try {
            text.append(call.answer());
        } catch (RuntimeException e) {
            text.append(e.getClass().getSimpleName());
        }
        text.append('\n');
    }
}
