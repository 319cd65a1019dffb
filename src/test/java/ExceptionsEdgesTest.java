/** The edges that the document names for exceptions: what a refused call changes, and which exception is first. */
public final class ExceptionsEdgesTest extends Edges {
    private static final int TOO_MANY = Integer.MAX_VALUE;

    interface Refused {
        Object answer(VideoBridge x);
    }

    public static void main(String[] args) throws ReflectiveOperationException {
        run(ExceptionsEdgesTest.class);
    }

    /** Compares a bridge that has refused the call with one that was never asked. */
    private static void changesNothing(Class<? extends RuntimeException> due, Refused call) {
        VideoBridge x = Bridges.busy();
        refuses(due, () -> call.answer(x));
        answers(Snapshot.of(Bridges.busy()), () -> Snapshot.of(x));
    }

    private static void changesNothingWhenFull(Class<? extends RuntimeException> due, Refused call) {
        VideoBridge x = Bridges.full();
        refuses(due, () -> call.answer(x));
        answers(Snapshot.of(Bridges.full()), () -> Snapshot.of(x));
    }

    @Sentence(says = "A method that throws an exception changes nothing")
    static void refusedAddPerson() {
        changesNothing(ARGUMENT, x -> x.addPerson(-1));
        changesNothing(ARGUMENT, x -> x.addPerson(10000));
        changesNothingWhenFull(STATE, x -> x.addPerson(5));
    }

    @Sentence(says = "A method that throws an exception changes nothing")
    static void refusedSetBudget() {
        changesNothing(NONE, x -> x.setBudget(5, 1));
        changesNothing(ARGUMENT, x -> x.setBudget(0, -1));
        changesNothing(ARGUMENT, x -> x.setBudget(0, 10000));
    }

    @Sentence(says = "A method that throws an exception changes nothing")
    static void refusedSetSends() {
        changesNothing(NONE, x -> x.setSends(5, 1));
        changesNothing(ARGUMENT, x -> x.setSends(0, -1));
        changesNothing(ARGUMENT, x -> x.setSends(0, 4));
    }

    @Sentence(says = "A method that throws an exception changes nothing")
    static void refusedSetLoud() {
        changesNothing(NONE, x -> x.setLoud(5, 1));
        changesNothing(ARGUMENT, x -> x.setLoud(0, -1));
        changesNothing(ARGUMENT, x -> x.setLoud(0, 100));
    }

    @Sentence(says = "A method that throws an exception changes nothing")
    static void refusedAddRoom() {
        changesNothingWhenFull(STATE, x -> x.addRoom());
    }

    @Sentence(says = "A method that throws an exception changes nothing")
    static void refusedEnter() {
        changesNothing(NONE, x -> x.enter(5, 1));
        changesNothing(INDEX, x -> x.enter(0, 2));
        changesNothing(INDEX, x -> x.enter(4, -1));
        changesNothing(STATE, x -> x.enter(0, 0));
    }

    @Sentence(says = "A method that throws an exception changes nothing")
    static void refusedLeave() {
        changesNothing(NONE, x -> x.leave(5));
        changesNothing(STATE, x -> x.leave(4));
    }

    @Sentence(says = "A method that throws an exception changes nothing")
    static void refusedSplit() {
        changesNothing(INDEX, x -> x.split(2));
        changesNothing(STATE, x -> x.split(1));
        changesNothingWhenFull(STATE, x -> x.split(0));
    }

    @Sentence(says = "A method that throws an exception changes nothing")
    static void refusedJoin() {
        changesNothing(INDEX, x -> x.join(0, 2));
        changesNothing(INDEX, x -> x.join(2, 0));
        changesNothing(ARGUMENT, x -> x.join(0, 0));
    }

    @Sentence(says = "A method that throws an exception changes nothing")
    static void refusedPin() {
        changesNothing(NONE, x -> x.pin(0, 5));
        changesNothing(NONE, x -> x.pin(5, 0));
        changesNothing(ARGUMENT, x -> x.pin(0, 0));
        changesNothing(UNSUPPORTED, x -> x.pin(0, 4));
    }

    @Sentence(says = "A method that throws an exception changes nothing")
    static void refusedUnpin() {
        changesNothing(NONE, x -> x.unpin(5));
        changesNothing(STATE, x -> x.unpin(1));
    }

    @Sentence(says = "A method that throws an exception changes nothing")
    static void refusedPass() {
        changesNothing(ARGUMENT, x -> x.pass(0));
        changesNothing(ARGUMENT, x -> x.pass(61));
        changesNothingWhenFull(STATE, x -> x.pass(1));
    }

    @Sentence(says = "A method that throws an exception changes nothing")
    static void refusedRecord() {
        changesNothing(INDEX, x -> x.record(2));
        changesNothingWhenFull(STATE, x -> x.record(0));
    }

    @Sentence(says = "A method that throws an exception changes nothing")
    static void refusedStop() {
        changesNothing(NONE, x -> x.stop(2));
        changesNothing(STATE, x -> x.stop(1));
    }

    @Sentence(says = "A method that throws an exception changes nothing")
    static void refusedQuestionsOfPeople() {
        changesNothing(NONE, x -> x.roomOf(5));
        changesNothing(STATE, x -> x.roomOf(4));
        changesNothing(NONE, x -> x.hears(0, 5));
        changesNothing(NONE, x -> x.talked(5));
        changesNothing(NONE, x -> x.layer(5, 0));
        changesNothing(NONE, x -> x.layerAnew(0, 5));
        changesNothing(NONE, x -> x.used(5));
        changesNothing(NONE, x -> x.viewers(5));
    }

    @Sentence(says = "A method that throws an exception changes nothing")
    static void refusedQuestionsOfRooms() {
        changesNothing(INDEX, x -> x.inRoom(2));
        changesNothing(INDEX, x -> x.personAt(2, 0));
        changesNothing(NONE, x -> x.personAt(0, 4));
        changesNothing(INDEX, x -> x.speaker(2));
        changesNothing(NONE, x -> x.speaker(1));
        changesNothing(INDEX, x -> x.challenge(2));
        changesNothing(NONE, x -> x.turnAt(1));
    }

    @Sentence(says = "A method that throws an exception changes nothing")
    static void refusedQuestionsOfRecorders() {
        changesNothing(NONE, x -> x.stateOf(2));
        changesNothing(NONE, x -> x.follows(2));
        changesNothing(STATE, x -> x.follows(1));
        changesNothing(NONE, x -> x.noteAt(2, 0));
        changesNothing(INDEX, x -> x.noteAt(0, 3));
    }

    @Sentence(says = "A method that throws an exception changes nothing")
    static void refusedMeanAndShare() {
        VideoBridge x = withRooms(1);
        x.setBudget(0, 0);
        x.setBudget(1, 0);
        x.setBudget(2, 0);
        refuses(ARITHMETIC, () -> x.meanLayer());
        refuses(ARITHMETIC, () -> x.usedShare());
        VideoBridge untouched = withRooms(1);
        untouched.setBudget(0, 0);
        untouched.setBudget(1, 0);
        untouched.setBudget(2, 0);
        answers(Snapshot.of(untouched), () -> Snapshot.of(x));
    }

    @Sentence(says = "If several exceptions apply, the one that is documented first is thrown")
    static void firstOfAddPerson() {
        VideoBridge x = Bridges.full();
        refuses(ARGUMENT, () -> x.addPerson(-1));
        refuses(ARGUMENT, () -> x.addPerson(10000));
        refuses(STATE, () -> x.addPerson(9999));
    }

    @Sentence(says = "If several exceptions apply, the one that is documented first is thrown")
    static void firstOfTheSettings() {
        VideoBridge x = Bridges.busy();
        refuses(NONE, () -> x.setBudget(5, 10000));
        refuses(NONE, () -> x.setBudget(-1, -1));
        refuses(NONE, () -> x.setSends(5, 4));
        refuses(NONE, () -> x.setSends(-1, -1));
        refuses(NONE, () -> x.setLoud(5, 100));
        refuses(NONE, () -> x.setLoud(-1, -1));
    }

    @Sentence(says = "If several exceptions apply, the one that is documented first is thrown")
    static void firstOfEnter() {
        VideoBridge x = Bridges.busy();
        refuses(NONE, () -> x.enter(5, 2));
        refuses(NONE, () -> x.enter(-1, -1));
    }

    @Sentence(says = "If several exceptions apply, the one that is documented first is thrown")
    static void firstOfSplit() {
        VideoBridge x = Bridges.full();
        refuses(INDEX, () -> x.split(6));
        refuses(INDEX, () -> x.split(-1));
    }

    @Sentence(says = "If several exceptions apply, the one that is documented first is thrown")
    static void firstOfJoin() {
        VideoBridge x = Bridges.busy();
        refuses(INDEX, () -> x.join(2, 2));
        refuses(INDEX, () -> x.join(-1, -1));
    }

    @Sentence(says = "If several exceptions apply, the one that is documented first is thrown")
    static void firstOfPin() {
        VideoBridge x = Bridges.busy();
        refuses(NONE, () -> x.pin(5, 5));
        refuses(NONE, () -> x.pin(-1, -1));
        refuses(NONE, () -> x.pin(4, 5));
        refuses(NONE, () -> x.pin(5, 4));
        refuses(ARGUMENT, () -> x.pin(4, 4));
    }

    @Sentence(says = "If several exceptions apply, the one that is documented first is thrown")
    static void firstOfPersonAt() {
        VideoBridge x = Bridges.busy();
        refuses(INDEX, () -> x.personAt(2, -1));
        refuses(INDEX, () -> x.personAt(-1, TOO_MANY));
    }

    @Sentence(says = "If several exceptions apply, the one that is documented first is thrown")
    static void firstOfPass() {
        VideoBridge x = Bridges.full();
        refuses(ARGUMENT, () -> x.pass(61));
        refuses(ARGUMENT, () -> x.pass(TOO_MANY));
        refuses(STATE, () -> x.pass(60));
    }

    @Sentence(says = "If several exceptions apply, the one that is documented first is thrown")
    static void firstOfRecord() {
        VideoBridge x = Bridges.full();
        refuses(INDEX, () -> x.record(6));
        refuses(INDEX, () -> x.record(-1));
        refuses(STATE, () -> x.record(5));
    }

    @Sentence(says = "If several exceptions apply, the one that is documented first is thrown")
    static void firstOfNoteAt() {
        VideoBridge x = Bridges.busy();
        refuses(NONE, () -> x.noteAt(2, -1));
        refuses(NONE, () -> x.noteAt(-1, TOO_MANY));
        refuses(INDEX, () -> x.noteAt(1, TOO_MANY));
    }
}
