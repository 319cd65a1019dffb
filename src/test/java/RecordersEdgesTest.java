/** The edges that promises 33 to 38 name, and the terms of recorders. */
public final class RecordersEdgesTest extends Edges {
    public static void main(String[] args) throws ReflectiveOperationException {
        run(RecordersEdgesTest.class);
    }

    /** Recorders of the room 0, where the person 0 speaks once a tick has passed; the room 1 is empty. */
    private static VideoBridge recording(int recorders) {
        VideoBridge x = Bridges.oneRoom(2);
        x.addRoom();
        x.setLoud(0, 10);
        for (int i = 0; i < recorders; i++) {
            x.record(0);
        }
        return x;
    }

    @Sentence(says = "At most 8 recorders are started, numbered from 0")
    static void eightRecordersAndNoNinth() {
        VideoBridge x = recording(0);
        for (int i = 0; i < 8; i++) {
            int number = i;
            answers(number, () -> x.record(number % 2));
        }
        refuses(STATE, () -> x.record(0));
        answers('r', () -> x.stateOf(0));
        answers('r', () -> x.stateOf(7));
        refuses(NONE, () -> x.stateOf(8));
    }

    @Sentence(says = "each one follows a room until it is stopped")
    static void followsUntilStopped() {
        VideoBridge x = recording(2);
        x.pass(1);
        x.stop(0);
        x.pass(1);
        refuses(INDEX, () -> x.noteAt(0, 1));
        answers(0, () -> x.noteAt(1, 1));
        refuses(STATE, () -> x.follows(0));
        answers(0, () -> x.follows(1));
        answers(2, () -> x.stop(1));
    }

    @Sentence(says = "When a tick passes, behind what happens to the speakers")
    static void notesTheSpeakerOfThisVeryTick() {
        VideoBridge x = recording(1);
        x.pass(1);
        answers(0, () -> x.noteAt(0, 0));
        x.setLoud(1, 15);
        x.pass(3);
        answers(0, () -> x.noteAt(0, 2));
        answers(1, () -> x.noteAt(0, 3));
    }

    @Sentence(says = "each one that is not stopped notes the speaker of its room, or -1 if there is none")
    static void notesThatThereIsNoSpeaker() {
        VideoBridge x = recording(1);
        x.record(1);
        x.setLoud(0, 9);
        x.pass(1);
        x.setLoud(0, 10);
        x.pass(1);
        x.leave(0);
        x.pass(1);
        answers(-1, () -> x.noteAt(0, 0));
        answers(0, () -> x.noteAt(0, 1));
        answers(-1, () -> x.noteAt(0, 2));
        answers(-1, () -> x.noteAt(1, 0));
        answers(-1, () -> x.noteAt(1, 2));
    }

    @Sentence(says = "its recorders follow the other room from then on")
    static void recordersFollowTheJoinedRoom() {
        VideoBridge x = recording(1);
        x.record(1);
        x.pass(1);
        x.join(0, 1);
        answers(1, () -> x.follows(0));
        answers(1, () -> x.follows(1));
        x.pass(1);
        answers(0, () -> x.noteAt(0, 0));
        answers(-1, () -> x.noteAt(1, 0));
        answers(0, () -> x.noteAt(1, 1));
        x.enter(0, 0);
        x.pass(1);
        answers(-1, () -> x.noteAt(0, 2));
    }

    @Sentence(says = "its recorders follow the other room from then on")
    static void recordersFollowFromAnEmptyRoom() {
        VideoBridge x = recording(1);
        x.record(1);
        x.record(x.addRoom());
        x.join(1, 0);
        answers(0, () -> x.follows(1));
        answers(2, () -> x.follows(2));
        x.join(0, 2);
        answers("222", () -> "" + x.follows(0) + x.follows(1) + x.follows(2));
    }

    @Sentence(says = "its recorders follow the other room from then on")
    static void recordersStayWhenTheirRoomIsSplit() {
        VideoBridge x = recording(1);
        x.split(0);
        answers(0, () -> x.follows(0));
        x.pass(1);
        answers(0, () -> x.noteAt(0, 0));
    }

    @Sentence(of = 33, says = "Returns the number of the recorder")
    static void firstAndLastRecorder() {
        VideoBridge x = recording(0);
        answers(0, () -> x.record(1));
        for (int i = 1; i < 7; i++) {
            x.record(0);
        }
        answers(7, () -> x.record(1));
    }

    @Sentence(of = 33, says = "Throws `IndexOutOfBoundsException` if there is no such room")
    static void recordNoRoom() {
        refusesMissingRooms((x, room) -> x.record(room));
    }

    @Sentence(of = 33, says = "Throws `IllegalStateException` if 8 recorders were started")
    static void startANinthRecorder() {
        VideoBridge x = recording(7);
        answers(7, () -> x.record(0));
        refuses(STATE, () -> x.record(0));
        for (int i = 0; i < 8; i++) {
            x.stop(i);
        }
        refuses(STATE, () -> x.record(0));
    }

    @Sentence(of = 34, says = "Returns the number of its notes")
    static void stopWithNoNotesAndWithMost() {
        VideoBridge x = recording(3);
        answers(0, () -> x.stop(0));
        x.pass(1);
        answers(1, () -> x.stop(1));
        passUpTo(x, 2000);
        answers(2000, () -> x.stop(2));
    }

    @Sentence(of = 34, says = "Throws `NoSuchElementException` if there is no such recorder")
    static void stopNoRecorder() {
        refusesMissingRecorders((x, recorder) -> x.stop(recorder));
    }

    @Sentence(of = 34, says = "Throws `IllegalStateException` if it is stopped")
    static void stopTwice() {
        VideoBridge x = recording(8);
        x.stop(0);
        x.stop(7);
        refuses(STATE, () -> x.stop(0));
        refuses(STATE, () -> x.stop(7));
        x.join(0, 1);
        x.pass(1);
        refuses(STATE, () -> x.stop(0));
    }

    @Sentence(of = 35, says = "Returns 'r' if it records, 's' if it is stopped")
    static void statesOfTheFirstAndTheLast() {
        VideoBridge x = recording(8);
        answers('r', () -> x.stateOf(0));
        answers('r', () -> x.stateOf(7));
        x.stop(7);
        answers('r', () -> x.stateOf(0));
        answers('s', () -> x.stateOf(7));
        passUpTo(x, 2000);
        answers('r', () -> x.stateOf(0));
        x.stop(0);
        answers('s', () -> x.stateOf(0));
    }

    @Sentence(of = 35, says = "Throws `NoSuchElementException` if there is no such recorder")
    static void stateOfNoRecorder() {
        refusesMissingRecorders((x, recorder) -> x.stateOf(recorder));
    }

    @Sentence(of = 36, says = "Returns the number of the room")
    static void followsTheFirstAndTheLastRoom() {
        VideoBridge x = withRooms(6);
        x.record(0);
        x.record(5);
        answers(0, () -> x.follows(0));
        answers(5, () -> x.follows(1));
        x.join(5, 0);
        answers(0, () -> x.follows(1));
    }

    @Sentence(of = 36, says = "Throws `NoSuchElementException` if there is no such recorder")
    static void followsWithoutRecorder() {
        refusesMissingRecorders((x, recorder) -> x.follows(recorder));
    }

    @Sentence(of = 36, says = "Throws `IllegalStateException` if it is stopped")
    static void followsNothingWhenStopped() {
        VideoBridge x = recording(8);
        x.stop(0);
        x.stop(7);
        refuses(STATE, () -> x.follows(0));
        refuses(STATE, () -> x.follows(7));
        answers(0, () -> x.follows(6));
        x.join(0, 1);
        refuses(STATE, () -> x.follows(0));
        answers(1, () -> x.follows(6));
    }

    @Sentence(of = 37, says = "the index, from 0")
    static void notesAreCountedFromTheStartOfTheRecorder() {
        VideoBridge x = recording(0);
        x.pass(1);
        x.record(0);
        x.leave(0);
        x.pass(1);
        answers(-1, () -> x.noteAt(0, 0));
        refuses(INDEX, () -> x.noteAt(0, 1));
    }

    @Sentence(of = 37, says = "Returns the number of the person, or -1")
    static void firstAndLastPersonNotedAndNobody() {
        VideoBridge x = Bridges.oneRoom(10);
        x.record(0);
        x.pass(1);
        x.setLoud(0, 10);
        x.pass(1);
        x.setLoud(9, 99);
        passUpTo(x, 2000);
        answers(-1, () -> x.noteAt(0, 0));
        answers(0, () -> x.noteAt(0, 1));
        answers(9, () -> x.noteAt(0, 4));
        answers(9, () -> x.noteAt(0, 1999));
    }

    @Sentence(of = 37, says = "Throws `NoSuchElementException` if there is no such recorder")
    static void noteOfNoRecorder() {
        refusesMissingRecorders((x, recorder) -> x.noteAt(recorder, 0));
    }

    @Sentence(of = 37, says = "Throws `IndexOutOfBoundsException` if there is no such note")
    static void noteAtNoIndex() {
        for (int notes : new int[] {0, 1, 16, 17, 2000}) {
            VideoBridge x = recording(1);
            passUpTo(x, notes);
            refusesEach(INDEX, outside(notes - 1), x, (y, index) -> y.noteAt(0, index));
            x.stop(0);
            refusesEach(INDEX, outside(notes - 1), x, (y, index) -> y.noteAt(0, index));
            if (notes > 0) {
                answers(0, () -> x.noteAt(0, notes - 1));
            }
        }
    }

    @Sentence(of = 38, says = "Returns whether this holds")
    static void apartWhenEmptyFullLeftSplitAndJoined() {
        answers(true, () -> new VideoBridge().isApart());
        VideoBridge x = Bridges.oneRoom(10);
        answers(true, () -> x.isApart());
        x.setLoud(1, 99);
        x.pass(1);
        x.pin(0, 2);
        answers(true, () -> x.isApart());
        x.split(0);
        answers(true, () -> x.isApart());
        x.pass(1);
        x.join(1, 0);
        answers(true, () -> x.isApart());
        for (int i = 0; i < 10; i++) {
            x.setBudget(i, 0);
        }
        answers(true, () -> x.isApart());
        for (int i = 0; i < 10; i++) {
            x.leave(i);
        }
        answers(true, () -> x.isApart());
    }
}
