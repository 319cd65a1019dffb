import java.util.NoSuchElementException;

/** Promises 33 to 38. */
public final class RecordersTest {
    private static final Class<NoSuchElementException> NONE = NoSuchElementException.class;
    private static final Class<IllegalStateException> STATE = IllegalStateException.class;
    private static final Class<IndexOutOfBoundsException> INDEX = IndexOutOfBoundsException.class;

    public static void main(String[] args) {
        promise33Record();
        promise34Stop();
        promise35StateOf();
        promise36Follows();
        promise37NoteAt();
        notesComeBehindTheSpeakers();
        longestNotes();
        promise38IsApart();
        Check.end();
    }

    private static void promise33Record() {
        VideoBridge x = Bridges.oneRoom(1);
        Check.refuses(INDEX, () -> x.record(1));
        Check.refuses(INDEX, () -> x.record(-1));
        for (int i = 0; i < 8; i++) {
            int number = i;
            Check.answers(number, () -> x.record(0));
        }
        x.stop(0);
        Check.refuses(STATE, () -> x.record(0));
        Check.refuses(INDEX, () -> x.record(1));
        Check.refuses(INDEX, () -> x.record(6));
        Check.refuses(NONE, () -> x.stateOf(8));
    }

    private static void promise34Stop() {
        VideoBridge x = Bridges.oneRoom(1);
        x.record(0);
        x.record(0);
        Check.answers(0, () -> x.stop(0));
        x.pass(5);
        Check.answers(5, () -> x.stop(1));
        Check.refuses(STATE, () -> x.stop(0));
        Check.refuses(STATE, () -> x.stop(1));
        x.pass(5);
        Check.refuses(INDEX, () -> x.noteAt(0, 0));
        Check.refuses(INDEX, () -> x.noteAt(1, 5));
        Check.answers(-1, () -> x.noteAt(1, 4));
        Check.refuses(NONE, () -> x.stop(2));
        Check.refuses(NONE, () -> x.stop(-1));
        Check.refuses(NONE, () -> x.stop(8));
        Check.refuses(NONE, () -> x.stop(Integer.MAX_VALUE));
    }

    private static void promise35StateOf() {
        VideoBridge x = Bridges.oneRoom(1);
        x.record(0);
        x.record(0);
        Check.answers('r', () -> x.stateOf(0));
        x.stop(0);
        Check.answers('s', () -> x.stateOf(0));
        Check.answers('r', () -> x.stateOf(1));
        Check.refuses(NONE, () -> x.stateOf(2));
        Check.refuses(NONE, () -> x.stateOf(-1));
        Check.refuses(NONE, () -> x.stateOf(8));
    }

    private static void promise36Follows() {
        VideoBridge x = Bridges.oneRoom(4);
        x.record(0);
        x.split(0);
        x.addRoom();
        x.record(1);
        x.record(2);
        Check.answers(0, () -> x.follows(0));
        Check.answers(1, () -> x.follows(1));
        x.join(1, 2);
        Check.answers(0, () -> x.follows(0));
        Check.answers(2, () -> x.follows(1));
        Check.answers(2, () -> x.follows(2));
        x.join(1, 0);
        Check.answers(2, () -> x.follows(1));
        x.stop(1);
        Check.refuses(STATE, () -> x.follows(1));
        Check.refuses(NONE, () -> x.follows(3));
        Check.refuses(NONE, () -> x.follows(-1));
        Check.refuses(NONE, () -> x.follows(8));
    }

    private static void promise37NoteAt() {
        VideoBridge x = Bridges.oneRoom(2);
        x.record(0);
        Check.refuses(INDEX, () -> x.noteAt(0, 0));
        x.pass(1);
        x.setLoud(1, 20);
        x.pass(2);
        x.leave(1);
        Check.answers(1, () -> x.noteAt(0, 2));
        x.pass(1);
        Check.answers("-11 1 -1", () -> x.noteAt(0, 0) + "" + x.noteAt(0, 1) + " " + x.noteAt(0, 2)
                + " " + x.noteAt(0, 3));
        Check.refuses(INDEX, () -> x.noteAt(0, 4));
        Check.refuses(INDEX, () -> x.noteAt(0, -1));
        Check.refuses(INDEX, () -> x.noteAt(0, Integer.MAX_VALUE));
        Check.refuses(INDEX, () -> x.noteAt(0, Integer.MIN_VALUE));
        Check.refuses(NONE, () -> x.noteAt(1, 0));
        Check.refuses(NONE, () -> x.noteAt(1, -1));
        Check.refuses(NONE, () -> x.noteAt(-1, 0));
        Check.refuses(NONE, () -> x.noteAt(8, 0));
    }

    private static void notesComeBehindTheSpeakers() {
        VideoBridge x = Bridges.oneRoom(4);
        x.split(0);
        x.record(1);
        x.setLoud(0, 20);
        x.setLoud(1, 30);
        x.pass(1);
        Check.answers(1, () -> x.noteAt(0, 0));
        x.setLoud(3, 50);
        x.pass(3);
        Check.answers(1, () -> x.noteAt(0, 2));
        Check.answers(3, () -> x.noteAt(0, 3));
        x.join(1, 0);
        x.pass(1);
        Check.answers(0, () -> x.noteAt(0, 4));
        x.pass(2);
        Check.answers(3, () -> x.noteAt(0, 6));
    }

    private static void longestNotes() {
        VideoBridge x = Bridges.oneRoom(1);
        x.record(0);
        for (int i = 0; i < 33; i++) {
            x.pass(60);
        }
        x.setLoud(0, 99);
        x.pass(20);
        Check.answers(-1, () -> x.noteAt(0, 1979));
        Check.answers(0, () -> x.noteAt(0, 1980));
        Check.answers(0, () -> x.noteAt(0, 1999));
        Check.refuses(INDEX, () -> x.noteAt(0, 2000));
        Check.answers(2000, () -> x.stop(0));
    }

    private static void promise38IsApart() {
        VideoBridge x = Bridges.oneRoom(6);
        Check.answers(true, () -> x.isApart());
        x.setLoud(1, 30);
        x.pass(1);
        x.pin(0, 4);
        x.setBudget(2, 700);
        Check.answers(true, () -> x.isApart());
        x.split(0);
        Check.answers(true, () -> x.isApart());
        x.pass(3);
        x.enter(1, 0);
        x.leave(3);
        Check.answers(true, () -> x.isApart());
        x.join(0, 1);
        x.setSends(4, 1);
        Check.answers(true, () -> x.isApart());
    }
}
