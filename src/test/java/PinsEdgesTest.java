/** The edges that promises 11 and 12 name, and the terms of pins. */
public final class PinsEdgesTest extends Edges {
    public static void main(String[] args) throws ReflectiveOperationException {
        run(PinsEdgesTest.class);
    }

    /** People in the room 0, where the first one named has pinned the second one, and an empty room 1. */
    private static VideoBridge pinned(int people, int viewer, int person) {
        VideoBridge x = Bridges.oneRoom(people);
        x.addRoom();
        x.pin(viewer, person);
        return x;
    }

    @Sentence(says = "A person can pin another one of the same room")
    static void twoCanPinEachOtherAndTwoTheSame() {
        VideoBridge x = Bridges.oneRoom(10);
        answers(-1, () -> x.pin(0, 9));
        answers(-1, () -> x.pin(9, 0));
        answers(-1, () -> x.pin(1, 9));
        answers(9, () -> x.unpin(0));
        answers(0, () -> x.unpin(9));
        answers(9, () -> x.unpin(1));
    }

    @Sentence(says = "the pin ends when both are not in the same room any more")
    static void pinEndsWhenThePinnedOneGoes() {
        VideoBridge x = pinned(3, 0, 1);
        x.leave(1);
        refuses(STATE, () -> x.unpin(0));
        VideoBridge y = pinned(3, 0, 1);
        y.enter(1, 1);
        refuses(STATE, () -> y.unpin(0));
        y.enter(1, 0);
        refuses(STATE, () -> y.unpin(0));
        answers(-1, () -> y.pin(0, 1));
    }

    @Sentence(says = "the pin ends when both are not in the same room any more")
    static void pinEndsWhenTheViewerGoes() {
        VideoBridge x = pinned(3, 0, 1);
        x.leave(0);
        refuses(STATE, () -> x.unpin(0));
        VideoBridge y = pinned(3, 0, 1);
        y.enter(0, 1);
        y.enter(1, 1);
        refuses(STATE, () -> y.unpin(0));
    }

    @Sentence(says = "the pin ends when both are not in the same room any more")
    static void pinEndsWhenASplitParts() {
        for (int viewer = 0; viewer < 2; viewer++) {
            int looking = viewer;
            VideoBridge x = pinned(4, looking, 3 - looking);
            x.split(0);
            refuses(STATE, () -> x.unpin(looking));
        }
    }

    @Sentence(says = "the pin ends when both are not in the same room any more")
    static void pinLastsWhenAnotherOneGoes() {
        VideoBridge x = pinned(3, 0, 1);
        x.leave(2);
        answers(1, () -> x.unpin(0));
    }

    @Sentence(says = "the pin ends when both are not in the same room any more")
    static void viewsAreChosenWithoutThePinThatEnds() {
        VideoBridge x = pinned(3, 0, 2);
        x.setBudget(0, 1700);
        answers("013", () -> Bridges.layers(x, 0, 3));
        x.leave(2);
        x.enter(2, 0);
        answers("031", () -> Bridges.layers(x, 0, 3));
    }

    @Sentence(says = "so a pin lasts when both go into the same room by one call")
    static void pinLastsByJoin() {
        VideoBridge x = pinned(3, 0, 1);
        x.join(0, 1);
        answers(1, () -> x.unpin(0));
    }

    @Sentence(says = "so a pin lasts when both go into the same room by one call")
    static void pinLastsByJoinToAFullerRoom() {
        VideoBridge x = pinned(6, 5, 4);
        x.enter(0, 1);
        x.enter(1, 1);
        x.setBudget(5, 100);
        x.join(0, 1);
        answers("000010", () -> Bridges.layers(x, 5, 6));
        answers(4, () -> x.unpin(5));
        answers("100000", () -> Bridges.layers(x, 5, 6));
    }

    @Sentence(says = "so a pin lasts when both go into the same room by one call")
    static void pinLastsBySplitForThoseWhoGoAndThoseWhoStay() {
        VideoBridge x = pinned(4, 1, 3);
        x.pin(2, 0);
        x.split(0);
        answers(3, () -> x.unpin(1));
        answers(0, () -> x.unpin(2));
    }

    @Sentence(of = 11, says = "Returns the person who was pinned before, or -1")
    static void pinnedBefore() {
        VideoBridge x = Bridges.oneRoom(10);
        answers(-1, () -> x.pin(9, 0));
        answers(0, () -> x.pin(9, 0));
        answers(0, () -> x.pin(9, 8));
        answers(8, () -> x.pin(9, 1));
        answers(-1, () -> x.pin(0, 9));
        x.unpin(9);
        answers(-1, () -> x.pin(9, 1));
        answers(9, () -> x.pin(0, 1));
    }

    @Sentence(of = 11, says = "Throws `NoSuchElementException` if there is no such person, for either")
    static void nobodyPinsAndNobodyIsPinned() {
        refusesMissingPeople((x, person) -> x.pin(person, 0));
        refusesMissingPeople((x, person) -> x.pin(0, person));
        refusesMissingPeople((x, person) -> x.pin(person, person));
    }

    @Sentence(of = 11, says = "Throws `IllegalArgumentException` if both are the same")
    static void nobodyPinsOneself() {
        VideoBridge x = Bridges.oneRoom(10);
        refuses(ARGUMENT, () -> x.pin(0, 0));
        refuses(ARGUMENT, () -> x.pin(9, 9));
        x.leave(9);
        refuses(ARGUMENT, () -> x.pin(9, 9));
        refuses(STATE, () -> x.unpin(0));
    }

    @Sentence(of = 11, says = "Throws `UnsupportedOperationException` if both are not in the same room")
    static void pinsAcrossRooms() {
        VideoBridge x = withRooms(2);
        refuses(UNSUPPORTED, () -> x.pin(0, 1));
        x.enter(0, 0);
        refuses(UNSUPPORTED, () -> x.pin(0, 1));
        refuses(UNSUPPORTED, () -> x.pin(1, 0));
        x.enter(1, 1);
        refuses(UNSUPPORTED, () -> x.pin(0, 1));
        refuses(UNSUPPORTED, () -> x.pin(1, 0));
        x.enter(1, 0);
        answers(-1, () -> x.pin(0, 1));
        x.leave(0);
        x.leave(1);
        refuses(UNSUPPORTED, () -> x.pin(0, 1));
    }

    @Sentence(of = 12, says = "Returns the person who was pinned")
    static void unpinTheFirstAndTheLastPerson() {
        VideoBridge x = Bridges.oneRoom(10);
        x.pin(9, 0);
        x.pin(0, 9);
        answers(0, () -> x.unpin(9));
        answers(9, () -> x.unpin(0));
    }

    @Sentence(of = 12, says = "Throws `NoSuchElementException` if there is no such person")
    static void nobodyUnpins() {
        refusesMissingPeople((x, person) -> x.unpin(person));
    }

    @Sentence(of = 12, says = "Throws `IllegalStateException` if nobody is pinned for this person")
    static void unpinNothing() {
        VideoBridge x = pinned(3, 0, 1);
        refuses(STATE, () -> x.unpin(1));
        refuses(STATE, () -> x.unpin(2));
        x.unpin(0);
        refuses(STATE, () -> x.unpin(0));
    }
}
