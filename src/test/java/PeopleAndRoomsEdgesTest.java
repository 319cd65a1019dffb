/** The edges that promises 1 to 10 and 13 to 17 name, and the terms of people, rooms, splitting and joining. */
public final class PeopleAndRoomsEdgesTest extends Edges {
    public static void main(String[] args) throws ReflectiveOperationException {
        run(PeopleAndRoomsEdgesTest.class);
    }

    @Sentence(of = -1, says = "An object is used for at most 512 calls after it has been made")
    static void call512AnswersAsTheFirstOnes() {
        VideoBridge x = Bridges.oneRoom(2);
        for (int i = 7; i < 510; i++) {
            x.setLoud(0, i % 100);
        }
        answers(9, () -> x.setLoud(0, 11));
        answers(true, () -> x.hears(1, 0));
    }

    @Sentence(says = "At most 10 people exist, numbered from 0")
    static void tenPeopleAndNoEleventh() {
        VideoBridge x = new VideoBridge();
        for (int i = 0; i < 10; i++) {
            int number = i;
            answers(number, () -> x.addPerson(1));
        }
        refuses(STATE, () -> x.addPerson(1));
        answers(10, () -> x.people());
        answers(1, () -> x.setBudget(0, 1));
        answers(1, () -> x.setBudget(9, 1));
        refuses(NONE, () -> x.setBudget(10, 1));
    }

    @Sentence(says = "a person has a budget from 0 to 9999")
    static void smallestAndLargestBudget() {
        VideoBridge x = new VideoBridge();
        x.addPerson(0);
        x.addPerson(9999);
        answers(0, () -> x.setBudget(0, 9999));
        answers(9999, () -> x.setBudget(1, 0));
        answers(9999, () -> x.setBudget(0, 0));
        answers(0, () -> x.setBudget(1, 1));
    }

    @Sentence(says = "sends layers up to one from 0 to 3, 0 at first")
    static void lowestAndHighestLayerSent() {
        VideoBridge x = Bridges.oneRoom(1);
        x.addPerson(9999);
        x.enter(1, 0);
        answers(0, () -> x.layer(0, 1));
        for (int i = 0; i <= 3; i++) {
            int sent = i;
            answers(Math.max(0, sent - 1), () -> x.setSends(1, sent));
            answers(sent, () -> x.layer(0, 1));
        }
        answers(3, () -> x.setSends(1, 0));
        answers(0, () -> x.layer(0, 1));
    }

    @Sentence(says = "has a loudness from 0 to 99, 0 at first")
    static void leastAndGreatestLoudness() {
        VideoBridge x = new VideoBridge();
        x.addPerson(1);
        answers(0, () -> x.setLoud(0, 99));
        answers(99, () -> x.setLoud(0, 0));
        answers(0, () -> x.setLoud(0, 1));
    }

    @Sentence(says = "At most 6 rooms exist, numbered from 0")
    static void sixRoomsAndNoSeventh() {
        VideoBridge x = Bridges.oneRoom(2);
        for (int i = 1; i < 5; i++) {
            int number = i;
            answers(number, () -> x.addRoom());
        }
        answers(5, () -> x.split(0));
        refuses(STATE, () -> x.addRoom());
        answers(6, () -> x.rooms());
        answers(1, () -> x.inRoom(0));
        answers(1, () -> x.inRoom(5));
        refuses(INDEX, () -> x.inRoom(6));
    }

    @Sentence(says = "A person is in one room or in none")
    static void oneRoomAtMost() {
        VideoBridge x = withRooms(6);
        refuses(STATE, () -> x.roomOf(0));
        for (int i = 0; i < 6; i++) {
            int room = i;
            x.enter(0, room);
            answers(room, () -> x.roomOf(0));
        }
        answers("000001", () -> sizes(x));
        x.leave(0);
        refuses(STATE, () -> x.roomOf(0));
        answers("000000", () -> sizes(x));
    }

    @Sentence(says = "the people of a room have an order, in which those who come in are the last ones")
    static void whoComesInIsTheLastOne() {
        VideoBridge x = Bridges.oneRoom(10);
        x.addRoom();
        answers("0123456789", () -> Bridges.order(x, 0));
        x.leave(0);
        x.enter(0, 0);
        answers("1234567890", () -> Bridges.order(x, 0));
        x.enter(0, 1);
        x.enter(0, 0);
        answers("1234567890", () -> Bridges.order(x, 0));
        x.enter(5, 1);
        x.enter(5, 0);
        answers("1234678905", () -> Bridges.order(x, 0));
    }

    @Sentence(says = "When a room is split, the second, the fourth one and so on of its people, in their order")
    static void splitsOfAllSizes() {
        String[] stay = {"0", "02", "02", "024", "024", "0246", "0246", "02468", "02468"};
        String[] go = {"1", "1", "13", "13", "135", "135", "1357", "1357", "13579"};
        for (int people = 2; people <= 10; people++) {
            VideoBridge x = Bridges.oneRoom(people);
            x.split(0);
            String staying = stay[people - 2];
            String going = go[people - 2];
            answers(staying, () -> Bridges.order(x, 0));
            answers(going, () -> Bridges.order(x, 1));
        }
    }

    @Sentence(says = "go out of it and into a new room, in this order")
    static void splitLooksAtTheOrderNotTheNumbers() {
        VideoBridge x = Bridges.oneRoom(4);
        x.leave(1);
        x.enter(1, 0);
        x.leave(0);
        x.enter(0, 0);
        x.split(0);
        answers("21", () -> Bridges.order(x, 0));
        answers("30", () -> Bridges.order(x, 1));
        answers(1, () -> x.roomOf(0));
        answers(0, () -> x.roomOf(1));
    }

    @Sentence(says = "When a room is joined to another one, all of its people, in their order, go out of it")
    static void joinsOfEmptyAndFullRooms() {
        VideoBridge x = Bridges.oneRoom(10);
        x.split(0);
        x.addRoom();
        x.join(2, 0);
        answers("02468", () -> Bridges.order(x, 0));
        x.join(1, 0);
        answers("0246813579", () -> Bridges.order(x, 0));
        answers("", () -> Bridges.order(x, 1));
        x.join(0, 2);
        answers("", () -> Bridges.order(x, 0));
        answers("0246813579", () -> Bridges.order(x, 2));
        x.join(1, 0);
        answers("0010", () -> "" + x.inRoom(0) + x.inRoom(1) + x.inRoom(2));
        answers(2, () -> x.roomOf(9));
    }

    @Sentence(of = 1, says = "Creates a bridge without people, rooms and recorders, at the tick 0")
    static void newBridgeIsEmpty() {
        VideoBridge x = new VideoBridge();
        answers(0, () -> x.people());
        answers(0, () -> x.rooms());
        answers(0, () -> x.tick());
        answers(0, () -> x.changes());
        answers(0L, () -> x.sent());
        refuses(NONE, () -> x.roomOf(0));
        refuses(INDEX, () -> x.inRoom(0));
        refuses(NONE, () -> x.stateOf(0));
        refuses(NONE, () -> x.turnAt(0));
    }

    @Sentence(of = 1, says = "Creates a bridge without people")
    static void bridgesDoNotShare() {
        VideoBridge x = Bridges.oneRoom(10);
        x.record(0);
        x.setLoud(0, 99);
        passUpTo(x, 2000);
        newBridgeIsEmpty();
    }

    @Sentence(of = 2, says = "Adds a person, who is in no room")
    static void newPersonIsInNoRoom() {
        VideoBridge x = new VideoBridge();
        x.addRoom();
        x.addPerson(9999);
        refuses(STATE, () -> x.roomOf(0));
        answers(0, () -> x.inRoom(0));
    }

    @Sentence(of = 2, says = "Returns the number of the person")
    static void firstAndLastPerson() {
        VideoBridge x = new VideoBridge();
        answers(0, () -> x.addPerson(0));
        for (int i = 1; i < 9; i++) {
            x.addPerson(i);
        }
        answers(9, () -> x.addPerson(9999));
    }

    @Sentence(of = 2, says = "Throws `IllegalArgumentException` if the budget is out of range")
    static void addPersonWithABudgetOutOfRange() {
        VideoBridge x = new VideoBridge();
        refusesEach(ARGUMENT, outside(9999), x, (y, budget) -> y.addPerson(budget));
        answers(0, () -> x.people());
    }

    @Sentence(of = 2, says = "Throws `IllegalStateException` if there are 10 people")
    static void addAnEleventhPerson() {
        VideoBridge x = Bridges.oneRoom(9);
        answers(9, () -> x.addPerson(0));
        refuses(STATE, () -> x.addPerson(0));
        refuses(STATE, () -> x.addPerson(9999));
        x.leave(0);
        refuses(STATE, () -> x.addPerson(5));
    }

    @Sentence(of = 3, says = "Returns the budget before")
    static void budgetBefore() {
        VideoBridge x = Bridges.oneRoom(10);
        answers(9999, () -> x.setBudget(9, 0));
        answers(0, () -> x.setBudget(9, 0));
        answers(0, () -> x.setBudget(9, 9999));
        answers(9999, () -> x.setBudget(0, 9999));
    }

    @Sentence(of = 3, says = "Throws `NoSuchElementException` if there is no such person")
    static void setBudgetOfNobody() {
        refusesMissingPeople((x, person) -> x.setBudget(person, 1));
    }

    @Sentence(of = 3, says = "Throws `IllegalArgumentException` if the budget is out of range")
    static void setBudgetOutOfRange() {
        VideoBridge x = Bridges.oneRoom(1);
        refusesEach(ARGUMENT, outside(9999), x, (y, budget) -> y.setBudget(0, budget));
        answers(9999, () -> x.setBudget(0, 1));
    }

    @Sentence(of = 4, says = "Returns the layer before")
    static void layerBefore() {
        VideoBridge x = withRooms(0);
        answers(0, () -> x.setSends(2, 3));
        answers(3, () -> x.setSends(2, 3));
        answers(3, () -> x.setSends(2, 0));
        answers(0, () -> x.setSends(2, 0));
    }

    @Sentence(of = 4, says = "Throws `NoSuchElementException` if there is no such person")
    static void setSendsOfNobody() {
        refusesMissingPeople((x, person) -> x.setSends(person, 1));
    }

    @Sentence(of = 4, says = "Throws `IllegalArgumentException` if the layer is out of range")
    static void setSendsOutOfRange() {
        VideoBridge x = Bridges.oneRoom(1);
        refusesEach(ARGUMENT, outside(3), x, (y, layer) -> y.setSends(0, layer));
        answers(3, () -> x.setSends(0, 1));
    }

    @Sentence(of = 5, says = "Returns the loudness before")
    static void loudnessBefore() {
        VideoBridge x = withRooms(0);
        answers(0, () -> x.setLoud(2, 99));
        answers(99, () -> x.setLoud(2, 99));
        answers(99, () -> x.setLoud(2, 0));
        answers(0, () -> x.setLoud(2, 0));
    }

    @Sentence(of = 5, says = "Throws `NoSuchElementException` if there is no such person")
    static void setLoudOfNobody() {
        refusesMissingPeople((x, person) -> x.setLoud(person, 1));
    }

    @Sentence(of = 5, says = "Throws `IllegalArgumentException` if the loudness is out of range")
    static void setLoudOutOfRange() {
        VideoBridge x = Bridges.oneRoom(1);
        refusesEach(ARGUMENT, outside(99), x, (y, loudness) -> y.setLoud(0, loudness));
        answers(0, () -> x.setLoud(0, 1));
    }

    @Sentence(of = 6, says = "Adds an empty room")
    static void newRoomIsEmpty() {
        VideoBridge x = Bridges.oneRoom(10);
        x.setLoud(0, 99);
        x.pass(1);
        x.addRoom();
        answers(0, () -> x.inRoom(1));
        refuses(NONE, () -> x.personAt(1, 0));
        refuses(NONE, () -> x.speaker(1));
        answers(0, () -> x.challenge(1));
    }

    @Sentence(of = 6, says = "Returns the number of the room")
    static void firstAndLastRoom() {
        VideoBridge x = new VideoBridge();
        answers(0, () -> x.addRoom());
        for (int i = 1; i < 5; i++) {
            x.addRoom();
        }
        answers(5, () -> x.addRoom());
    }

    @Sentence(of = 6, says = "Throws `IllegalStateException` if there are 6 rooms")
    static void addASeventhRoom() {
        VideoBridge x = withRooms(5);
        answers(5, () -> x.addRoom());
        refuses(STATE, () -> x.addRoom());
        x.join(5, 0);
        refuses(STATE, () -> x.addRoom());
    }

    @Sentence(of = 7, says = "Lets a person into a room, also from another one")
    static void enterFromAnotherRoomAndFromNone() {
        VideoBridge x = withRooms(2);
        answers(1, () -> x.enter(0, 0));
        answers(1, () -> x.enter(0, 1));
        answers("", () -> Bridges.order(x, 0));
        answers("0", () -> Bridges.order(x, 1));
        answers(1, () -> x.enter(0, 0));
    }

    @Sentence(of = 7, says = "Returns the number of people in the room then")
    static void enterUntilTheRoomHoldsAll() {
        VideoBridge x = new VideoBridge();
        x.addRoom();
        for (int i = 0; i < 10; i++) {
            int person = x.addPerson(0);
            answers(person + 1, () -> x.enter(person, 0));
        }
    }

    @Sentence(of = 7, says = "Throws `NoSuchElementException` if there is no such person")
    static void nobodyEnters() {
        refusesMissingPeople((x, person) -> x.enter(person, 0));
    }

    @Sentence(of = 7, says = "Throws `IndexOutOfBoundsException` if there is no such room")
    static void enterNoRoom() {
        refusesMissingRooms((x, room) -> x.enter(0, room));
    }

    @Sentence(of = 7, says = "Throws `IllegalStateException` if the person is in this room")
    static void enterTheSameRoom() {
        VideoBridge x = Bridges.oneRoom(3);
        for (int i = 0; i < 3; i++) {
            int person = i;
            refuses(STATE, () -> x.enter(person, 0));
        }
        answers("012", () -> Bridges.order(x, 0));
    }

    @Sentence(of = 8, says = "Returns the number of the room")
    static void leaveTheFirstAndTheLastRoom() {
        VideoBridge x = withRooms(6);
        x.enter(0, 0);
        x.enter(1, 5);
        answers(0, () -> x.leave(0));
        answers(5, () -> x.leave(1));
        answers("000000", () -> sizes(x));
    }

    @Sentence(of = 8, says = "Throws `NoSuchElementException` if there is no such person")
    static void nobodyLeaves() {
        refusesMissingPeople((x, person) -> x.leave(person));
    }

    @Sentence(of = 8, says = "Throws `IllegalStateException` if the person is in no room")
    static void leaveNoRoom() {
        VideoBridge x = withRooms(1);
        refuses(STATE, () -> x.leave(0));
        x.enter(0, 0);
        x.leave(0);
        refuses(STATE, () -> x.leave(0));
    }

    @Sentence(of = 9, says = "Returns the number of the new room")
    static void splitIntoTheSecondAndTheLastRoom() {
        VideoBridge x = Bridges.oneRoom(8);
        answers(1, () -> x.split(0));
        x.addRoom();
        x.addRoom();
        answers(4, () -> x.split(1));
        answers(5, () -> x.split(0));
    }

    @Sentence(of = 9, says = "Throws `IndexOutOfBoundsException` if there is no such room")
    static void splitNoRoom() {
        refusesMissingRooms((x, room) -> x.split(room));
    }

    @Sentence(of = 9, says = "Throws `IllegalStateException` if less than 2 people are in it")
    static void splitAnEmptyRoomAndOneOfOne() {
        VideoBridge x = withRooms(1);
        refuses(STATE, () -> x.split(0));
        x.enter(0, 0);
        refuses(STATE, () -> x.split(0));
        x.enter(1, 0);
        answers(1, () -> x.split(0));
        refuses(STATE, () -> x.split(0));
        refuses(STATE, () -> x.split(1));
    }

    @Sentence(of = 9, says = "or there are 6 rooms")
    static void splitWithSixRooms() {
        VideoBridge x = Bridges.oneRoom(4);
        for (int i = 1; i < 5; i++) {
            x.addRoom();
        }
        answers(5, () -> x.split(0));
        refuses(STATE, () -> x.split(0));
        answers("02", () -> Bridges.order(x, 0));
        refuses(STATE, () -> x.split(1));
    }

    @Sentence(of = 10, says = "the number of the room that stays empty")
    static void joinedRoomStaysAndIsEmpty() {
        VideoBridge x = Bridges.oneRoom(2);
        x.addRoom();
        x.join(0, 1);
        answers(2, () -> x.rooms());
        answers(0, () -> x.inRoom(0));
        refuses(NONE, () -> x.personAt(0, 0));
        answers(1, () -> x.enter(0, 0));
    }

    @Sentence(of = 10, says = "Returns the number of people in the other room then")
    static void joinReturnsNoneToTen() {
        VideoBridge x = Bridges.oneRoom(10);
        x.addRoom();
        x.addRoom();
        answers(0, () -> x.join(1, 2));
        answers(10, () -> x.join(1, 0));
        answers(10, () -> x.join(0, 1));
        x.enter(3, 0);
        answers(10, () -> x.join(0, 1));
    }

    @Sentence(of = 10, says = "Throws `IndexOutOfBoundsException` if there is no such room, for either")
    static void joinNoRoom() {
        refusesMissingRooms((x, room) -> x.join(room, 0));
        refusesMissingRooms((x, room) -> x.join(0, room));
    }

    @Sentence(of = 10, says = "Throws `IllegalArgumentException` if both are the same")
    static void joinARoomToItself() {
        VideoBridge x = Bridges.oneRoom(2);
        x.addRoom();
        refuses(ARGUMENT, () -> x.join(0, 0));
        refuses(ARGUMENT, () -> x.join(1, 1));
        answers("01", () -> Bridges.order(x, 0));
    }

    @Sentence(of = 13, says = "Returns the number of people")
    static void noPeopleToTen() {
        VideoBridge x = new VideoBridge();
        answers(0, () -> x.people());
        for (int i = 1; i <= 10; i++) {
            int people = i;
            x.addPerson(0);
            answers(people, () -> x.people());
        }
    }

    @Sentence(of = 14, says = "Returns the number of rooms")
    static void noRoomsToSix() {
        VideoBridge x = new VideoBridge();
        answers(0, () -> x.rooms());
        for (int i = 1; i <= 6; i++) {
            int rooms = i;
            x.addRoom();
            answers(rooms, () -> x.rooms());
        }
    }

    @Sentence(of = 15, says = "Returns the number of the room")
    static void inTheFirstAndTheLastRoom() {
        VideoBridge x = withRooms(6);
        x.enter(0, 0);
        x.enter(2, 5);
        answers(0, () -> x.roomOf(0));
        answers(5, () -> x.roomOf(2));
    }

    @Sentence(of = 15, says = "Throws `NoSuchElementException` if there is no such person")
    static void roomOfNobody() {
        refusesMissingPeople((x, person) -> x.roomOf(person));
    }

    @Sentence(of = 15, says = "Throws `IllegalStateException` if the person is in no room")
    static void roomOfOneInNone() {
        VideoBridge x = Bridges.oneRoom(1);
        x.addPerson(0);
        refuses(STATE, () -> x.roomOf(1));
        x.leave(0);
        refuses(STATE, () -> x.roomOf(0));
    }

    @Sentence(of = 16, says = "Returns the number of people")
    static void emptyAndFullRoom() {
        VideoBridge x = Bridges.oneRoom(10);
        x.addRoom();
        answers(10, () -> x.inRoom(0));
        answers(0, () -> x.inRoom(1));
        x.join(0, 1);
        answers(0, () -> x.inRoom(0));
        answers(10, () -> x.inRoom(1));
    }

    @Sentence(of = 16, says = "Throws `IndexOutOfBoundsException` if there is no such room")
    static void inNoRoom() {
        refusesMissingRooms((x, room) -> x.inRoom(room));
    }

    @Sentence(of = 17, says = "the index in the order of the room, from 0")
    static void indexesFromZero() {
        VideoBridge x = Bridges.oneRoom(3);
        answers(0, () -> x.personAt(0, 0));
        answers(2, () -> x.personAt(0, 2));
    }

    @Sentence(of = 17, says = "Returns the number of the person")
    static void firstAndLastOfAFullRoom() {
        VideoBridge x = Bridges.oneRoom(10);
        answers(0, () -> x.personAt(0, 0));
        answers(9, () -> x.personAt(0, 9));
        x.leave(0);
        x.enter(0, 0);
        answers(1, () -> x.personAt(0, 0));
        answers(0, () -> x.personAt(0, 9));
    }

    @Sentence(of = 17, says = "Throws `IndexOutOfBoundsException` if there is no such room")
    static void personAtNoRoom() {
        refusesMissingRooms((x, room) -> x.personAt(room, 0));
    }

    @Sentence(of = 17, says = "Throws `NoSuchElementException` if there is no such index")
    static void personAtNoIndex() {
        for (int people : new int[] {0, 1, 3, 10}) {
            refusesEach(NONE, outside(people - 1), Bridges.oneRoom(people), (x, index) -> x.personAt(0, index));
        }
        VideoBridge x = Bridges.oneRoom(10);
        x.leave(9);
        refuses(NONE, () -> x.personAt(0, 9));
    }

    /** How many people are in each of six rooms, as digits. */
    private static String sizes(VideoBridge x) {
        StringBuilder digits = new StringBuilder();
        for (int room = 0; room < 6; room++) {
            digits.append(x.inRoom(room));
        }
        return digits.toString();
    }
}
