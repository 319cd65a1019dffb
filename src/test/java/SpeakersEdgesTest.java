/** The edges that promises 18 to 25 name, and the terms of speakers and of who hears whom. */
public final class SpeakersEdgesTest extends Edges {
    public static void main(String[] args) throws ReflectiveOperationException {
        run(SpeakersEdgesTest.class);
    }

    /** The person 0, as loud as this, speaks in the room 0, where all others are silent. */
    private static VideoBridge speaking(int people, int loudness) {
        VideoBridge x = Bridges.oneRoom(people);
        x.addRoom();
        x.setLoud(0, 10);
        x.pass(1);
        x.setLoud(0, loudness);
        return x;
    }

    /** The person 0 speaks, and the person 1 has been the challenger for so many ticks. */
    private static VideoBridge challenged(int people, int ticks) {
        VideoBridge x = speaking(people, 10);
        x.setLoud(1, 15);
        if (ticks > 0) {
            x.pass(ticks);
        }
        return x;
    }

    @Sentence(says = "A person hears another one if both are in the same room")
    static void hearsInTheSameRoomAlone() {
        VideoBridge x = withRooms(2);
        x.setLoud(1, 99);
        answers(false, () -> x.hears(0, 1));
        x.enter(1, 0);
        answers(false, () -> x.hears(0, 1));
        x.enter(0, 1);
        answers(false, () -> x.hears(0, 1));
        x.enter(0, 0);
        answers(true, () -> x.hears(0, 1));
    }

    @Sentence(says = "and the loudness of the other one is 10 or more")
    static void hearsFromTheLoudness10On() {
        VideoBridge x = Bridges.oneRoom(2);
        int[] loudness = {0, 9, 10, 11, 99};
        boolean[] heard = {false, false, true, true, true};
        for (int i = 0; i < loudness.length; i++) {
            boolean due = heard[i];
            x.setLoud(1, loudness[i]);
            answers(due, () -> x.hears(0, 1));
            answers(false, () -> x.hears(1, 0));
        }
    }

    @Sentence(says = "Nobody sees or hears a room that was left")
    static void hearsNobodyWhenOneHasLeft() {
        VideoBridge x = Bridges.oneRoom(3);
        for (int i = 0; i < 3; i++) {
            x.setLoud(i, 99);
        }
        x.leave(0);
        answers(false, () -> x.hears(0, 1));
        answers(false, () -> x.hears(1, 0));
        answers(true, () -> x.hears(1, 2));
        x.enter(2, x.addRoom());
        answers(false, () -> x.hears(2, 1));
        answers(false, () -> x.hears(1, 2));
        answers(false, () -> x.hears(0, 2));
    }

    @Sentence(says = "A room has a speaker or none, who is one of its people")
    static void emptyRoomAndRoomOfOne() {
        VideoBridge x = withRooms(2);
        x.setLoud(0, 99);
        x.pass(60);
        refuses(NONE, () -> x.speaker(0));
        x.enter(0, 0);
        refuses(NONE, () -> x.speaker(0));
        x.pass(1);
        answers(0, () -> x.speaker(0));
        refuses(NONE, () -> x.speaker(1));
    }

    @Sentence(says = "one who goes out of the room is not its speaker any more")
    static void speakerLeaves() {
        VideoBridge x = speaking(2, 10);
        x.leave(0);
        refuses(NONE, () -> x.speaker(0));
        x.enter(0, 0);
        refuses(NONE, () -> x.speaker(0));
    }

    @Sentence(says = "one who goes out of the room is not its speaker any more")
    static void speakerEntersAnotherRoom() {
        VideoBridge x = speaking(2, 10);
        x.enter(0, 1);
        refuses(NONE, () -> x.speaker(0));
        refuses(NONE, () -> x.speaker(1));
    }

    @Sentence(says = "one who goes out of the room is not its speaker any more")
    static void speakerGoesBySplitOrStays() {
        VideoBridge x = Bridges.oneRoom(4);
        x.setLoud(1, 10);
        x.pass(1);
        x.split(0);
        refuses(NONE, () -> x.speaker(0));
        refuses(NONE, () -> x.speaker(1));
        VideoBridge y = speaking(4, 10);
        y.split(0);
        answers(0, () -> y.speaker(0));
    }

    @Sentence(says = "one who goes out of the room is not its speaker any more")
    static void speakerGoesByJoinOrStays() {
        VideoBridge x = speaking(3, 10);
        x.enter(2, 1);
        x.setLoud(2, 10);
        x.pass(1);
        x.join(0, 1);
        refuses(NONE, () -> x.speaker(0));
        answers(2, () -> x.speaker(1));
        VideoBridge y = speaking(2, 10);
        y.join(0, 1);
        refuses(NONE, () -> y.speaker(1));
    }

    @Sentence(says = "The candidate of a room is the loudest one of its people, of several the one ahead in their order")
    static void aheadInTheOrderOfSeveral() {
        VideoBridge x = Bridges.oneRoom(10);
        for (int i = 0; i < 10; i++) {
            x.setLoud(i, 99);
        }
        x.leave(0);
        x.enter(0, 0);
        x.setLoud(1, 98);
        x.pass(1);
        answers(2, () -> x.speaker(0));
    }

    @Sentence(says = "The candidate of a room is the loudest one of its people")
    static void loudestIsTheLastOne() {
        VideoBridge x = Bridges.oneRoom(10);
        for (int i = 0; i < 10; i++) {
            x.setLoud(i, 90 + i);
        }
        x.pass(1);
        answers(9, () -> x.speaker(0));
    }

    @Sentence(says = "if this loudness is 10 or more")
    static void candidateFromTheLoudness10On() {
        VideoBridge x = Bridges.oneRoom(1);
        x.setLoud(0, 10);
        answers(1, () -> x.pass(1));
        answers(0, () -> x.speaker(0));
    }

    @Sentence(says = "otherwise there is none")
    static void noCandidateUpToTheLoudness9() {
        VideoBridge x = Bridges.oneRoom(2);
        x.setLoud(0, 9);
        x.setLoud(1, 8);
        answers(0, () -> x.pass(60));
        refuses(NONE, () -> x.speaker(0));
    }

    @Sentence(says = "When a tick passes, in the order of rooms")
    static void sixRoomsTakeTurnsInTheirOrder() {
        VideoBridge x = Bridges.oneRoom(6);
        for (int i = 0; i < 6; i++) {
            x.setLoud(i, 10);
        }
        for (int room = 1; room < 6; room++) {
            x.addRoom();
            x.enter(5 - room, room);
        }
        answers(6, () -> x.pass(1));
        int[] due = {5, 14, 23, 32, 41, 50};
        for (int i = 0; i < 6; i++) {
            int index = i;
            answers(due[index], () -> x.turnAt(index));
        }
    }

    @Sentence(says = "if there is no speaker, the candidate, if there is one, becomes the speaker")
    static void speaksAtOnceWhenThereIsNone() {
        VideoBridge x = challenged(3, 2);
        x.setLoud(2, 16);
        x.leave(0);
        answers(1, () -> x.pass(1));
        answers(2, () -> x.speaker(0));
        answers(0, () -> x.challenge(0));
    }

    @Sentence(says = "and the candidate is another person")
    static void speakerDoesNotChallenge() {
        VideoBridge x = speaking(2, 10);
        x.setLoud(0, 99);
        answers(0, () -> x.pass(5));
        answers(0, () -> x.challenge(0));
        answers(0, () -> x.speaker(0));
    }

    @Sentence(says = "and is louder by 5 or more")
    static void louderByFourAndByFive() {
        int[][] loudness = {{10, 14, 0}, {10, 15, 1}, {6, 10, 0}, {5, 10, 1}, {0, 10, 1}, {94, 99, 1}, {95, 99, 0},
            {0, 99, 1}, {99, 99, 0}};
        for (int[] row : loudness) {
            VideoBridge x = speaking(2, row[0]);
            x.setLoud(1, row[1]);
            x.pass(1);
            answers(row[2], () -> x.challenge(0));
            x.pass(2);
            answers(row[2], () -> x.speaker(0));
        }
    }

    @Sentence(says = "the candidate is the challenger, for 1 tick")
    static void challengerForOneTick() {
        VideoBridge x = challenged(2, 0);
        answers(0, () -> x.challenge(0));
        answers(0, () -> x.pass(1));
        answers(1, () -> x.challenge(0));
    }

    @Sentence(says = "or for 1 tick more if it was the challenger in the tick ahead")
    static void challengerForOneTickMore() {
        VideoBridge x = challenged(3, 1);
        x.pass(1);
        answers(2, () -> x.challenge(0));
        x.setLoud(2, 16);
        x.pass(1);
        answers(1, () -> x.challenge(0));
        x.setLoud(1, 17);
        x.pass(1);
        answers(1, () -> x.challenge(0));
        answers(0, () -> x.speaker(0));
    }

    @Sentence(says = "or for 1 tick more if it was the challenger in the tick ahead")
    static void challengerNotInTheTickAhead() {
        VideoBridge x = challenged(2, 2);
        x.setLoud(1, 14);
        x.pass(1);
        x.setLoud(1, 15);
        x.pass(1);
        answers(1, () -> x.challenge(0));
        answers(0, () -> x.pass(1));
        answers(1, () -> x.pass(1));
    }

    @Sentence(says = "with 3 ticks, the challenger becomes the speaker")
    static void speakerWithTheThirdTick() {
        VideoBridge x = challenged(2, 2);
        answers(0, () -> x.speaker(0));
        answers(1, () -> x.pass(1));
        answers(1, () -> x.speaker(0));
        VideoBridge y = challenged(2, 0);
        answers(1, () -> y.pass(3));
        answers(1, () -> y.speaker(0));
    }

    @Sentence(says = "In all other cases, there is no challenger then")
    static void noChallengerWhenOnlyFourLouder() {
        VideoBridge x = challenged(2, 2);
        x.setLoud(0, 11);
        answers(2, () -> x.challenge(0));
        x.pass(1);
        answers(0, () -> x.challenge(0));
    }

    @Sentence(says = "In all other cases, there is no challenger then")
    static void noChallengerWhenTheSpeakerIsTheLoudest() {
        VideoBridge x = challenged(2, 2);
        x.setLoud(0, 15);
        x.pass(1);
        answers(0, () -> x.challenge(0));
    }

    @Sentence(says = "In all other cases, there is no challenger then")
    static void noChallengerWithoutCandidate() {
        VideoBridge x = challenged(2, 2);
        x.setLoud(0, 0);
        x.setLoud(1, 9);
        x.pass(1);
        answers(0, () -> x.challenge(0));
        answers(0, () -> x.speaker(0));
    }

    @Sentence(says = "In all other cases, there is no challenger then")
    static void noChallengerWithoutSpeakerAndCandidate() {
        VideoBridge x = challenged(2, 2);
        x.leave(0);
        x.setLoud(1, 0);
        answers(0, () -> x.pass(1));
        answers(0, () -> x.challenge(0));
        refuses(NONE, () -> x.speaker(0));
    }

    @Sentence(says = "One who goes out of the room is not its challenger any more")
    static void challengerLeavesAndComesBack() {
        VideoBridge x = challenged(2, 2);
        x.leave(1);
        answers(0, () -> x.challenge(0));
        x.enter(1, 0);
        answers(0, () -> x.challenge(0));
        answers(0, () -> x.pass(2));
        answers(2, () -> x.challenge(0));
    }

    @Sentence(says = "One who goes out of the room is not its challenger any more")
    static void challengerEntersAnotherRoom() {
        VideoBridge x = challenged(2, 2);
        x.enter(1, 1);
        answers(0, () -> x.challenge(0));
        answers(0, () -> x.challenge(1));
    }

    @Sentence(says = "One who goes out of the room is not its challenger any more")
    static void challengerGoesBySplitOrStays() {
        VideoBridge x = challenged(4, 2);
        x.split(0);
        answers(0, () -> x.challenge(0));
        answers(0, () -> x.challenge(2));
        VideoBridge y = speaking(4, 10);
        y.setLoud(2, 15);
        y.pass(2);
        y.split(0);
        answers(2, () -> y.challenge(0));
        answers(1, () -> y.pass(1));
    }

    @Sentence(says = "One who goes out of the room is not its challenger any more")
    static void challengerGoesByJoinOrStays() {
        VideoBridge x = challenged(2, 2);
        x.join(0, 1);
        answers(0, () -> x.challenge(0));
        answers(0, () -> x.challenge(1));
        VideoBridge y = challenged(3, 0);
        y.enter(2, 1);
        y.pass(2);
        y.join(1, 0);
        answers(2, () -> y.challenge(0));
    }

    @Sentence(says = "Each time when somebody becomes a speaker is a turn")
    static void sameSpeakerAgainIsAnotherTurn() {
        VideoBridge x = speaking(1, 10);
        answers(1, () -> x.changes());
        answers(0, () -> x.pass(60));
        x.leave(0);
        x.enter(0, 0);
        answers(1, () -> x.changes());
        answers(1, () -> x.pass(60));
        answers(2, () -> x.changes());
        answers(0, () -> x.turnAt(1));
    }

    @Sentence(says = "When the challenger becomes the speaker, there is no challenger then")
    static void noChallengerBehindTheTurn() {
        VideoBridge x = challenged(2, 3);
        answers(1, () -> x.speaker(0));
        answers(0, () -> x.challenge(0));
        answers(0, () -> x.pass(1));
        answers(0, () -> x.challenge(0));
    }

    @Sentence(of = 18, says = "the number of ticks, 1 to 60")
    static void fewestAndMostTicks() {
        VideoBridge x = new VideoBridge();
        x.pass(1);
        answers(1, () -> x.tick());
        x.pass(60);
        answers(61, () -> x.tick());
    }

    @Sentence(of = 18, says = "Returns the number of turns")
    static void turnsOfThisCallAlone() {
        VideoBridge x = Bridges.oneRoom(2);
        answers(0, () -> x.pass(1));
        x.setLoud(0, 10);
        answers(1, () -> x.pass(1));
        answers(0, () -> x.pass(60));
        x.setLoud(1, 99);
        answers(0, () -> x.pass(2));
        answers(1, () -> x.pass(1));
        x.enter(0, x.addRoom());
        x.addPerson(0);
        x.enter(2, 0);
        x.setLoud(1, 10);
        x.setLoud(2, 15);
        answers(2, () -> x.pass(60));
    }

    @Sentence(of = 18, says = "Throws `IllegalArgumentException` if the number is out of range")
    static void passNoneOrTooMany() {
        VideoBridge x = new VideoBridge();
        refusesEach(ARGUMENT, outside(60), x, (y, ticks) -> y.pass(ticks));
        refuses(ARGUMENT, () -> x.pass(0));
        answers(0, () -> x.tick());
    }

    @Sentence(of = 18, says = "Throws `IllegalStateException` if the tick would be greater than 2000")
    static void passBeyondTheTick2000() {
        VideoBridge x = new VideoBridge();
        passUpTo(x, 1941);
        refuses(STATE, () -> x.pass(60));
        answers(1941, () -> x.tick());
        answers(0, () -> x.pass(58));
        refuses(STATE, () -> x.pass(2));
        answers(0, () -> x.pass(1));
        answers(2000, () -> x.tick());
        refuses(STATE, () -> x.pass(1));
        refuses(STATE, () -> x.pass(60));
        answers(2000, () -> x.tick());
    }

    @Sentence(of = 18, says = "Throws `IllegalStateException` if the tick would be greater than 2000")
    static void passUpToTheTick2000AtOnce() {
        VideoBridge x = new VideoBridge();
        passUpTo(x, 1940);
        answers(0, () -> x.pass(60));
        answers(2000, () -> x.tick());
    }

    @Sentence(of = 19, says = "Returns the number of ticks")
    static void ticksFrom0To2000() {
        VideoBridge x = new VideoBridge();
        answers(0, () -> x.tick());
        x.pass(1);
        answers(1, () -> x.tick());
        passUpTo(x, 2000);
        answers(2000, () -> x.tick());
    }

    @Sentence(of = 20, says = "Returns the number of the person")
    static void firstAndLastPersonSpeak() {
        VideoBridge x = Bridges.oneRoom(10);
        x.setLoud(0, 10);
        x.pass(1);
        answers(0, () -> x.speaker(0));
        x.setLoud(9, 99);
        x.pass(3);
        answers(9, () -> x.speaker(0));
    }

    @Sentence(of = 20, says = "Throws `IndexOutOfBoundsException` if there is no such room")
    static void speakerOfNoRoom() {
        refusesMissingRooms((x, room) -> x.speaker(room));
    }

    @Sentence(of = 20, says = "Throws `NoSuchElementException` if there is none")
    static void noSpeakerAheadOfTheFirstTick() {
        VideoBridge x = Bridges.oneRoom(10);
        x.addRoom();
        x.setLoud(0, 99);
        refuses(NONE, () -> x.speaker(0));
        refuses(NONE, () -> x.speaker(1));
        x.pass(1);
        answers(0, () -> x.speaker(0));
        refuses(NONE, () -> x.speaker(1));
    }

    @Sentence(of = 21, says = "Returns the number of ticks, 0 if there is no challenger")
    static void challengesOf0To2Ticks() {
        VideoBridge x = challenged(2, 0);
        int[] due = {1, 2, 0, 0};
        answers(0, () -> x.challenge(0));
        answers(0, () -> x.challenge(1));
        for (int ticks : due) {
            x.pass(1);
            answers(ticks, () -> x.challenge(0));
        }
    }

    @Sentence(of = 21, says = "Throws `IndexOutOfBoundsException` if there is no such room")
    static void challengeOfNoRoom() {
        refusesMissingRooms((x, room) -> x.challenge(room));
    }

    @Sentence(of = 22, says = "Returns whether that is so, false if both are the same")
    static void nobodyHearsOneself() {
        VideoBridge x = Bridges.oneRoom(10);
        x.addRoom();
        x.setLoud(0, 99);
        x.setLoud(9, 99);
        answers(false, () -> x.hears(0, 0));
        answers(false, () -> x.hears(9, 9));
        answers(true, () -> x.hears(0, 9));
        answers(true, () -> x.hears(9, 0));
        x.leave(9);
        answers(false, () -> x.hears(9, 9));
    }

    @Sentence(of = 22, says = "Throws `NoSuchElementException` if there is no such person, for either")
    static void nobodyHearsAndNobodyIsHeard() {
        refusesMissingPeople((x, person) -> x.hears(person, 0));
        refusesMissingPeople((x, person) -> x.hears(0, person));
        refusesMissingPeople((x, person) -> x.hears(person, person));
    }

    @Sentence(of = 23, says = "those counted behind which this was so")
    static void tickOfTheTurnCountsForTheNewSpeaker() {
        VideoBridge x = challenged(2, 2);
        answers(3L, () -> x.talked(0));
        x.pass(1);
        answers(3L, () -> x.talked(0));
        answers(1L, () -> x.talked(1));
    }

    @Sentence(of = 23, says = "Returns the number of ticks")
    static void talkedFrom0To2000() {
        VideoBridge x = Bridges.oneRoom(2);
        x.setLoud(0, 10);
        answers(0L, () -> x.talked(0));
        x.pass(1);
        answers(1L, () -> x.talked(0));
        passUpTo(x, 2000);
        answers(2000L, () -> x.talked(0));
        answers(0L, () -> x.talked(1));
        x.leave(0);
        answers(2000L, () -> x.talked(0));
    }

    @Sentence(of = 23, says = "Throws `NoSuchElementException` if there is no such person")
    static void nobodyTalked() {
        refusesMissingPeople((x, person) -> x.talked(person));
    }

    @Sentence(of = 24, says = "Returns the number of turns")
    static void turnsOfAllCalls() {
        VideoBridge x = challenged(2, 0);
        answers(1, () -> x.changes());
        x.pass(2);
        answers(1, () -> x.changes());
        x.pass(1);
        answers(2, () -> x.changes());
        answers(0, () -> new VideoBridge().changes());
    }

    @Sentence(of = 25, says = "the index, from 0")
    static void firstAndLastTurn() {
        VideoBridge x = challenged(2, 3);
        answers(0, () -> x.turnAt(0));
        answers(1, () -> x.turnAt(1));
    }

    @Sentence(of = 25, says = "Returns 10 times the number of the room plus the number of the person")
    static void leastAndGreatestTurn() {
        VideoBridge x = Bridges.oneRoom(10);
        for (int room = 1; room < 6; room++) {
            x.addRoom();
        }
        x.enter(9, 5);
        x.setLoud(0, 10);
        x.setLoud(9, 10);
        answers(2, () -> x.pass(1));
        answers(0, () -> x.turnAt(0));
        answers(59, () -> x.turnAt(1));
        x.enter(9, 1);
        x.enter(0, 2);
        answers(2, () -> x.pass(1));
        answers(19, () -> x.turnAt(2));
        answers(20, () -> x.turnAt(3));
    }

    @Sentence(of = 25, says = "Throws `NoSuchElementException` if there is no such turn")
    static void turnAtNoIndex() {
        refusesEach(NONE, outside(-1), new VideoBridge(), (x, index) -> x.turnAt(index));
        refusesEach(NONE, outside(0), speaking(1, 10), (x, index) -> x.turnAt(index));
        VideoBridge x = Bridges.oneRoom(1);
        x.setLoud(0, 10);
        for (int i = 0; i < 16; i++) {
            x.pass(1);
            x.leave(0);
            x.enter(0, 0);
        }
        refusesEach(NONE, outside(15), x, (y, index) -> y.turnAt(index));
        answers(0, () -> x.turnAt(15));
    }
}
