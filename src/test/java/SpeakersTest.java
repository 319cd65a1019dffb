import java.util.NoSuchElementException;

/** Promises 18 to 25. */
public final class SpeakersTest {
    private static final Class<NoSuchElementException> NONE = NoSuchElementException.class;
    private static final Class<IllegalArgumentException> ARGUMENT = IllegalArgumentException.class;
    private static final Class<IllegalStateException> STATE = IllegalStateException.class;
    private static final Class<IndexOutOfBoundsException> INDEX = IndexOutOfBoundsException.class;

    public static void main(String[] args) {
        promise18Pass();
        promise19Tick();
        promise20Speaker();
        candidateIsFirstOfTheLoudest();
        promise21Challenge();
        challengerGivesWay();
        challengerGoesOut();
        speakerGoesOut();
        promise22Hears();
        promise23Talked();
        promises24And25Turns();
        Check.end();
    }

    private static void promise18Pass() {
        VideoBridge x = Bridges.oneRoom(2);
        Check.refuses(ARGUMENT, () -> x.pass(0));
        Check.refuses(ARGUMENT, () -> x.pass(61));
        Check.refuses(ARGUMENT, () -> x.pass(-1));
        Check.refuses(ARGUMENT, () -> x.pass(Integer.MIN_VALUE));
        Check.refuses(ARGUMENT, () -> x.pass(Integer.MAX_VALUE));
        x.setLoud(0, 10);
        Check.answers(1, () -> x.pass(1));
        Check.answers(0, () -> x.pass(60));
        x.setLoud(1, 15);
        Check.answers(1, () -> x.pass(60));
        for (int i = 0; i < 31; i++) {
            x.pass(60);
        }
        Check.answers(1981, () -> x.tick());
        Check.refuses(STATE, () -> x.pass(20));
        Check.refuses(STATE, () -> x.pass(60));
        Check.answers(1981, () -> x.tick());
        Check.answers(0, () -> x.pass(19));
        Check.refuses(STATE, () -> x.pass(1));
        Check.refuses(ARGUMENT, () -> x.pass(0));
        Check.refuses(ARGUMENT, () -> x.pass(61));
        Check.answers(2000, () -> x.tick());
    }

    private static void promise19Tick() {
        VideoBridge x = new VideoBridge();
        x.pass(1);
        Check.answers(1, () -> x.tick());
        x.pass(60);
        Check.answers(61, () -> x.tick());
    }

    private static void promise20Speaker() {
        VideoBridge x = Bridges.oneRoom(3);
        x.addRoom();
        x.setLoud(1, 9);
        x.pass(3);
        Check.refuses(NONE, () -> x.speaker(0));
        x.setLoud(1, 10);
        Check.refuses(NONE, () -> x.speaker(0));
        x.pass(1);
        Check.answers(1, () -> x.speaker(0));
        Check.refuses(NONE, () -> x.speaker(1));
        Check.refuses(INDEX, () -> x.speaker(2));
        Check.refuses(INDEX, () -> x.speaker(-1));
        Check.refuses(INDEX, () -> x.speaker(Integer.MAX_VALUE));
        x.setLoud(1, 0);
        x.pass(5);
        Check.answers(1, () -> x.speaker(0));
    }

    private static void candidateIsFirstOfTheLoudest() {
        VideoBridge x = Bridges.oneRoom(4);
        x.leave(1);
        x.enter(1, 0);
        x.setLoud(1, 30);
        x.setLoud(3, 30);
        x.setLoud(0, 29);
        x.pass(1);
        Check.answers(3, () -> x.speaker(0));
    }

    private static void promise21Challenge() {
        VideoBridge x = Bridges.oneRoom(3);
        Check.answers(0, () -> x.challenge(0));
        x.setLoud(0, 20);
        Check.answers(1, () -> x.pass(1));
        Check.answers(0, () -> x.challenge(0));
        x.setLoud(1, 24);
        Check.answers(0, () -> x.pass(5));
        Check.answers(0, () -> x.challenge(0));
        x.setLoud(1, 25);
        Check.answers(0, () -> x.challenge(0));
        x.pass(1);
        Check.answers(1, () -> x.challenge(0));
        Check.answers(0, () -> x.pass(1));
        Check.answers(2, () -> x.challenge(0));
        Check.answers(0, () -> x.speaker(0));
        Check.answers(1, () -> x.pass(1));
        Check.answers(0, () -> x.challenge(0));
        Check.answers(1, () -> x.speaker(0));
        Check.refuses(INDEX, () -> x.challenge(1));
        Check.refuses(INDEX, () -> x.challenge(-1));
        Check.refuses(INDEX, () -> x.challenge(6));
    }

    private static void challengerGivesWay() {
        VideoBridge x = Bridges.oneRoom(3);
        x.setLoud(0, 20);
        x.pass(1);
        x.setLoud(1, 40);
        x.pass(2);
        x.setLoud(2, 41);
        x.pass(1);
        Check.answers(1, () -> x.challenge(0));
        Check.answers(0, () -> x.speaker(0));
        x.setLoud(0, 37);
        x.pass(1);
        Check.answers(0, () -> x.challenge(0));
        x.setLoud(0, 20);
        x.pass(2);
        Check.answers(2, () -> x.challenge(0));
        Check.answers(1, () -> x.pass(1));
        Check.answers(2, () -> x.speaker(0));
    }

    private static void challengerGoesOut() {
        VideoBridge x = Bridges.oneRoom(3);
        x.setLoud(0, 20);
        x.pass(1);
        x.setLoud(1, 40);
        x.pass(2);
        x.leave(1);
        Check.answers(0, () -> x.challenge(0));
        x.enter(1, 0);
        x.pass(2);
        Check.answers(2, () -> x.challenge(0));
        x.leave(2);
        Check.answers(2, () -> x.challenge(0));
        x.addRoom();
        x.enter(1, 1);
        Check.answers(0, () -> x.challenge(0));
        Check.answers(0, () -> x.challenge(1));
        Check.answers(0, () -> x.speaker(0));
    }

    private static void speakerGoesOut() {
        VideoBridge x = Bridges.oneRoom(2);
        x.setLoud(0, 20);
        x.pass(1);
        x.setLoud(1, 40);
        x.pass(2);
        x.leave(0);
        Check.refuses(NONE, () -> x.speaker(0));
        Check.answers(2, () -> x.challenge(0));
        x.setLoud(1, 9);
        x.pass(1);
        Check.answers(0, () -> x.challenge(0));
        Check.refuses(NONE, () -> x.speaker(0));
        x.enter(0, 0);
        Check.refuses(NONE, () -> x.speaker(0));
        Check.answers(1, () -> x.pass(1));
        Check.answers(0, () -> x.speaker(0));
        x.addRoom();
        x.enter(0, 1);
        Check.refuses(NONE, () -> x.speaker(0));
        Check.refuses(NONE, () -> x.speaker(1));
    }

    private static void promise22Hears() {
        VideoBridge x = Bridges.oneRoom(3);
        x.addPerson(5);
        x.addPerson(5);
        x.addRoom();
        x.enter(2, 1);
        for (int i = 0; i < 5; i++) {
            x.setLoud(i, 10);
        }
        Check.answers(true, () -> x.hears(0, 1));
        Check.answers(true, () -> x.hears(1, 0));
        Check.answers(false, () -> x.hears(0, 0));
        Check.answers(false, () -> x.hears(0, 2));
        Check.answers(false, () -> x.hears(3, 0));
        Check.answers(false, () -> x.hears(3, 4));
        x.setLoud(1, 9);
        Check.answers(false, () -> x.hears(0, 1));
        Check.answers(true, () -> x.hears(1, 0));
        x.leave(0);
        Check.answers(false, () -> x.hears(1, 0));
        Check.refuses(NONE, () -> x.hears(0, 5));
        Check.refuses(NONE, () -> x.hears(5, 0));
        Check.refuses(NONE, () -> x.hears(5, 5));
        Check.refuses(NONE, () -> x.hears(-1, -1));
    }

    private static void promise23Talked() {
        VideoBridge x = Bridges.oneRoom(3);
        x.setLoud(0, 20);
        x.pass(4);
        x.setLoud(1, 25);
        x.pass(4);
        Check.answers(6L, () -> x.talked(0));
        Check.answers(2L, () -> x.talked(1));
        Check.answers(0L, () -> x.talked(2));
        x.leave(1);
        x.pass(1);
        Check.answers(7L, () -> x.talked(0));
        Check.answers(2L, () -> x.talked(1));
        Check.refuses(NONE, () -> x.talked(3));
        Check.refuses(NONE, () -> x.talked(-1));
        Check.refuses(NONE, () -> x.talked(10));
    }

    private static void promises24And25Turns() {
        VideoBridge x = Bridges.oneRoom(4);
        x.split(0);
        Check.answers(0, () -> x.changes());
        Check.refuses(NONE, () -> x.turnAt(0));
        x.setLoud(2, 20);
        x.setLoud(3, 20);
        Check.answers(2, () -> x.pass(2));
        Check.answers(2, () -> x.turnAt(0));
        Check.answers(13, () -> x.turnAt(1));
        x.setLoud(1, 30);
        Check.answers(1, () -> x.pass(3));
        Check.answers(3, () -> x.changes());
        Check.answers(11, () -> x.turnAt(2));
        Check.refuses(NONE, () -> x.turnAt(3));
        Check.refuses(NONE, () -> x.turnAt(-1));
        Check.refuses(NONE, () -> x.turnAt(Integer.MAX_VALUE));
        Check.refuses(NONE, () -> x.turnAt(Integer.MIN_VALUE));
        manyTurns();
    }

    private static void manyTurns() {
        VideoBridge x = Bridges.oneRoom(1);
        x.setLoud(0, 50);
        for (int i = 0; i < 100; i++) {
            x.pass(1);
            x.leave(0);
            x.enter(0, 0);
        }
        Check.answers(100, () -> x.changes());
        Check.answers(0, () -> x.turnAt(99));
        Check.refuses(NONE, () -> x.turnAt(100));
    }
}
