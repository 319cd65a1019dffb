/** The edges that promises 26 to 32 name, and the terms of views. */
public final class ViewsEdgesTest extends Edges {
    public static void main(String[] args) throws ReflectiveOperationException {
        run(ViewsEdgesTest.class);
    }

    /** With this budget, the viewer sees the first people in these layers, as kept and anew. */
    private static void sees(VideoBridge x, int viewer, int budget, String layers) {
        x.setBudget(viewer, budget);
        answers(layers, () -> Bridges.layers(x, viewer, layers.length()));
        answers(layers, () -> Bridges.layersAnew(x, viewer, layers.length()));
    }

    /** The person 0 sees people who send up to the layers of the digits. */
    private static VideoBridge sending(String layers) {
        VideoBridge x = Bridges.oneRoom(layers.length() + 1);
        for (int i = 0; i < layers.length(); i++) {
            x.setSends(i + 1, layers.charAt(i) - '0');
        }
        return x;
    }

    @Sentence(says = "views, turns and records are asked")
    static void askingChangesNothing() {
        VideoBridge asked = Bridges.busy();
        String first = Snapshot.asked(asked);
        answers(first, () -> Snapshot.asked(asked));
        answers(Snapshot.of(Bridges.busy()), () -> Snapshot.of(asked));
    }

    @Sentence(says = "Who sees whom is kept, and found anew")
    static void keptLayersAreThoseFoundAnew() {
        VideoBridge x = Bridges.oneRoom(3);
        x.setBudget(0, 0);
        answers("000", () -> Bridges.layers(x, 0, 3));
        x.setBudget(0, 1700);
        answers("031", () -> Bridges.layers(x, 0, 3));
        x.pin(0, 2);
        answers("013", () -> Bridges.layers(x, 0, 3));
        x.setSends(2, 0);
        answers("030", () -> Bridges.layers(x, 0, 3));
        x.leave(1);
        answers("000", () -> Bridges.layers(x, 0, 3));
        answers("000", () -> Bridges.layersAnew(x, 0, 3));
    }

    @Sentence(says = "Nobody sees or hears a room that was left")
    static void seesNobodyWhenOneHasLeft() {
        VideoBridge x = Bridges.oneRoom(3);
        x.leave(0);
        answers("000", () -> Bridges.layers(x, 0, 3));
        answers("003", () -> Bridges.layers(x, 1, 3));
        x.enter(1, x.addRoom());
        answers("000", () -> Bridges.layers(x, 1, 3));
        answers("000", () -> Bridges.layers(x, 2, 3));
    }

    @Sentence(says = "The layer 1 needs 100 of a budget, the layer 2 needs 400, and the layer 3 needs 1600")
    static void justEnoughForEachLayer() {
        VideoBridge x = Bridges.oneRoom(2);
        int[] budgets = {0, 1, 99, 100, 101, 399, 400, 401, 1599, 1600, 1601, 9999};
        int[] layers = {0, 0, 0, 1, 1, 1, 2, 2, 2, 3, 3, 3};
        int[] needed = {0, 100, 400, 1600};
        for (int i = 0; i < budgets.length; i++) {
            int layer = layers[i];
            sees(x, 0, budgets[i], "0" + layer);
            answers(needed[layer], () -> x.used(0));
        }
    }

    @Sentence(says = "the layer 0 is no picture and needs nothing")
    static void layerZeroNeedsNothing() {
        VideoBridge x = sending("000000000");
        sees(x, 0, 0, "0000000000");
        sees(x, 0, 9999, "0000000000");
        answers(0, () -> x.used(0));
        answers(0, () -> x.viewers(1));
    }

    @Sentence(says = "What a person sees of the others in the room is chosen in steps")
    static void stepsInAFullRoom() {
        VideoBridge x = Bridges.oneRoom(10);
        sees(x, 0, 899, "0111111110");
        sees(x, 0, 900, "0111111111");
        sees(x, 0, 1200, "0211111111");
        sees(x, 0, 2399, "0222211111");
        sees(x, 0, 2400, "0311111111");
        sees(x, 0, 4799, "0322222221");
        sees(x, 0, 4800, "0322222222");
        sees(x, 0, 5999, "0322222222");
        sees(x, 0, 6000, "0332222222");
        sees(x, 0, 9999, "0333332222");
    }

    @Sentence(says = "each step takes a higher layer for somebody if that one sends it")
    static void noLayerAboveTheOneSent() {
        VideoBridge x = sending("0123");
        sees(x, 0, 9999, "00123");
        answers(2100, () -> x.used(0));
    }

    @Sentence(says = "and the budget is enough for all layers that are taken")
    static void budgetIsForAllLayersTogether() {
        VideoBridge x = Bridges.oneRoom(3);
        sees(x, 0, 199, "010");
        sees(x, 0, 200, "011");
        sees(x, 0, 499, "011");
        sees(x, 0, 500, "021");
        sees(x, 0, 1699, "022");
        sees(x, 0, 1700, "031");
        sees(x, 0, 3199, "032");
        sees(x, 0, 3200, "033");
        answers(3200, () -> x.used(0));
    }

    @Sentence(says = "the pinned one first, if there is one")
    static void pinnedIsFirstEvenBehindTheSpeaker() {
        VideoBridge x = Bridges.oneRoom(4);
        x.setLoud(2, 10);
        x.pass(1);
        x.pin(0, 3);
        sees(x, 0, 100, "0001");
        sees(x, 0, 200, "0101");
        sees(x, 0, 300, "0111");
        sees(x, 0, 1800, "0113");
        sees(x, 0, 2100, "0213");
    }

    @Sentence(says = "the pinned one first, if there is one")
    static void pinnedOneWhoSendsNothingIsStillFirst() {
        VideoBridge x = sending("033");
        x.pin(0, 1);
        sees(x, 0, 200, "0011");
        sees(x, 0, 800, "0022");
        sees(x, 0, 1700, "0022");
        sees(x, 0, 2000, "0032");
    }

    @Sentence(says = "the pinned one first, if there is one")
    static void pinnedSpeakerIsInLineOnce() {
        VideoBridge x = Bridges.oneRoom(3);
        x.setLoud(2, 10);
        x.pass(1);
        x.pin(0, 2);
        sees(x, 0, 100, "001");
        sees(x, 0, 200, "011");
        sees(x, 0, 9999, "033");
        answers(3200, () -> x.used(0));
    }

    @Sentence(says = "otherwise the speaker first, if there is one who is another person")
    static void speakerIsFirstForTheOthersAlone() {
        VideoBridge x = Bridges.oneRoom(4);
        x.setLoud(2, 10);
        sees(x, 0, 100, "0100");
        x.pass(1);
        sees(x, 0, 100, "0010");
        sees(x, 3, 100, "0010");
        sees(x, 2, 100, "1000");
        sees(x, 2, 1800, "3101");
        x.leave(2);
        sees(x, 0, 100, "0100");
    }

    @Sentence(says = "then the others in the order of the room")
    static void othersInTheOrderOfTheRoom() {
        VideoBridge x = Bridges.oneRoom(4);
        x.leave(1);
        x.enter(1, 0);
        sees(x, 0, 100, "0010");
        sees(x, 0, 200, "0011");
        sees(x, 0, 600, "0121");
        sees(x, 0, 900, "0122");
        sees(x, 1, 100, "1000");
    }

    @Sentence(says = "First, in this order, the layer 1 is taken for each one")
    static void layerOneForEachAheadOfLayerTwo() {
        VideoBridge x = Bridges.oneRoom(5);
        sees(x, 0, 0, "00000");
        sees(x, 0, 399, "01110");
        sees(x, 0, 400, "01111");
        sees(x, 0, 699, "01111");
    }

    @Sentence(says = "Second, for the first one in this order, the layer 2 and then the layer 3 are taken")
    static void firstOneGetsTwoAndThenThree() {
        VideoBridge x = Bridges.oneRoom(3);
        sees(x, 0, 499, "011");
        sees(x, 0, 500, "021");
        sees(x, 0, 1699, "022");
        sees(x, 0, 1700, "031");
        x.setSends(1, 2);
        sees(x, 0, 1700, "022");
        x.setSends(1, 1);
        sees(x, 0, 1699, "012");
        sees(x, 0, 1700, "013");
    }

    @Sentence(says = "Third, in this order, the layer 2 is taken for each one that has the layer 1")
    static void layerTwoForEachAheadOfLayerThree() {
        VideoBridge x = sending("2333");
        sees(x, 0, 999, "02111");
        sees(x, 0, 1000, "02211");
        sees(x, 0, 1300, "02221");
        sees(x, 0, 1600, "02222");
        sees(x, 0, 2799, "02222");
        x.setSends(2, 0);
        sees(x, 0, 900, "02021");
    }

    @Sentence(says = "Fourth, in this order, the layer 3 is taken for each one that has the layer 2")
    static void layerThreeForEachInOrder() {
        VideoBridge x = sending("2313");
        sees(x, 0, 2499, "02212");
        sees(x, 0, 2500, "02312");
        sees(x, 0, 3699, "02312");
        sees(x, 0, 3700, "02313");
    }

    @Sentence(says = "A step that is not possible is left out")
    static void laterStepsAreTakenAllTheSame() {
        VideoBridge x = sending("0303");
        sees(x, 0, 100, "00100");
        sees(x, 0, 200, "00101");
        sees(x, 0, 800, "00202");
        sees(x, 0, 2000, "00302");
        VideoBridge y = Bridges.oneRoom(3);
        y.setSends(2, 2);
        sees(y, 0, 1699, "022");
    }

    @Sentence(says = "A person outside the room is seen with the layer 0")
    static void outsideTheRoom() {
        VideoBridge x = withRooms(2);
        x.setSends(1, 3);
        answers(0, () -> x.layer(0, 1));
        x.enter(0, 0);
        answers(0, () -> x.layer(0, 1));
        x.enter(1, 1);
        answers(0, () -> x.layer(0, 1));
        answers(0, () -> x.layerAnew(0, 1));
        x.enter(1, 0);
        answers(3, () -> x.layer(0, 1));
    }

    @Sentence(of = 26, says = "Returns the layer, 0 if both are the same")
    static void keptLayersFrom0To3() {
        VideoBridge x = sending("012333333");
        answers("0012333332", () -> Bridges.layers(x, 0, 10));
        answers("3012333320", () -> Bridges.layers(x, 9, 10));
        answers(0, () -> x.layer(0, 0));
        answers(0, () -> x.layer(9, 9));
    }

    @Sentence(of = 26, says = "Throws `NoSuchElementException` if there is no such person, for either")
    static void layerOfNobody() {
        refusesMissingPeople((x, person) -> x.layer(person, 0));
        refusesMissingPeople((x, person) -> x.layer(0, person));
        refusesMissingPeople((x, person) -> x.layer(person, person));
    }

    @Sentence(of = 27, says = "Returns the layer")
    static void layersAnewFrom0To3() {
        VideoBridge x = sending("0123");
        answers("00123", () -> Bridges.layersAnew(x, 0, 5));
        answers(0, () -> x.layerAnew(4, 4));
        x.leave(0);
        answers("00000", () -> Bridges.layersAnew(x, 0, 5));
    }

    @Sentence(of = 27, says = "Throws `NoSuchElementException` if there is no such person, for either")
    static void layerAnewOfNobody() {
        refusesMissingPeople((x, person) -> x.layerAnew(person, 0));
        refusesMissingPeople((x, person) -> x.layerAnew(0, person));
        refusesMissingPeople((x, person) -> x.layerAnew(person, person));
    }

    @Sentence(of = 28, says = "Returns the sum of what the layers need that the person sees")
    static void usedFromNothingToAll() {
        VideoBridge x = Bridges.oneRoom(10);
        x.addRoom();
        answers(9600, () -> x.used(0));
        x.setBudget(0, 0);
        answers(0, () -> x.used(0));
        x.setBudget(0, 900);
        answers(900, () -> x.used(0));
        x.setBudget(0, 899);
        answers(800, () -> x.used(0));
        x.enter(9, 1);
        answers(0, () -> x.used(9));
        x.leave(9);
        answers(0, () -> x.used(9));
    }

    @Sentence(of = 28, says = "Throws `NoSuchElementException` if there is no such person")
    static void usedByNobody() {
        refusesMissingPeople((x, person) -> x.used(person));
    }

    @Sentence(of = 29, says = "Returns the number of those who see the person in a layer from 1 on")
    static void viewersFromNoneToNine() {
        VideoBridge x = Bridges.oneRoom(10);
        answers(9, () -> x.viewers(0));
        answers(9, () -> x.viewers(9));
        for (int sent = 1; sent <= 3; sent++) {
            x.setSends(9, sent);
            answers(9, () -> x.viewers(9));
        }
        x.setBudget(0, 899);
        answers(8, () -> x.viewers(9));
        x.setSends(9, 0);
        answers(0, () -> x.viewers(9));
        x.leave(0);
        answers(0, () -> x.viewers(0));
        answers(8, () -> x.viewers(1));
    }

    @Sentence(of = 29, says = "Throws `NoSuchElementException` if there is no such person")
    static void viewersOfNobody() {
        refusesMissingPeople((x, person) -> x.viewers(person));
    }

    @Sentence(of = 30, says = "Returns the sum of what was used by all people behind each tick")
    static void sentFromNothingToTheMost() {
        VideoBridge x = Bridges.oneRoom(10);
        answers(0L, () -> x.sent());
        x.pass(1);
        answers(96000L, () -> x.sent());
        passUpTo(x, 2000);
        answers(192000000L, () -> x.sent());
        x.leave(0);
        answers(192000000L, () -> x.sent());
    }

    @Sentence(of = 30, says = "Returns the sum of what was used by all people behind each tick")
    static void sentBehindTheTurnOfTheTick() {
        VideoBridge x = Bridges.oneRoom(3);
        x.setBudget(0, 1700);
        x.setBudget(1, 0);
        x.setBudget(2, 0);
        x.setSends(1, 0);
        x.setSends(2, 2);
        x.setLoud(2, 10);
        answers(400, () -> x.used(0));
        x.setSends(1, 3);
        answers(1700, () -> x.used(0));
        x.pass(1);
        answers(800L, () -> x.sent());
    }

    @Sentence(of = 31, says = "divided by the number of such pairs, both converted to double")
    static void meanFromNoneToThree() {
        VideoBridge x = Bridges.oneRoom(2);
        answers(3.0, () -> x.meanLayer());
        x.setSends(0, 0);
        answers(1.5, () -> x.meanLayer());
        x.setSends(1, 0);
        answers(0.0, () -> x.meanLayer());
        x.addPerson(0);
        x.enter(2, 0);
        x.setSends(1, 2);
        answers(2.0 / 6.0, () -> x.meanLayer());
        VideoBridge full = Bridges.oneRoom(10);
        answers(230.0 / 90.0, () -> full.meanLayer());
    }

    @Sentence(of = 31, says = "Returns the sum of the layers in which people see others of their room")
    static void meanOfPairsInTwoRooms() {
        VideoBridge x = Bridges.oneRoom(5);
        x.setSends(1, 1);
        x.setSends(3, 0);
        x.split(0);
        x.addPerson(9999);
        answers((18.0 + 1.0) / 8.0, () -> x.meanLayer());
    }

    @Sentence(of = 31, says = "Throws `ArithmeticException` if no two people are in one room")
    static void noMeanWithoutPairs() {
        refuses(ARITHMETIC, () -> new VideoBridge().meanLayer());
        VideoBridge x = withRooms(2);
        refuses(ARITHMETIC, () -> x.meanLayer());
        x.enter(0, 0);
        refuses(ARITHMETIC, () -> x.meanLayer());
        x.enter(1, 1);
        refuses(ARITHMETIC, () -> x.meanLayer());
        x.enter(2, 1);
        answers(0.0, () -> x.meanLayer());
        x.leave(1);
        refuses(ARITHMETIC, () -> x.meanLayer());
    }

    @Sentence(of = 32, says = "Returns the sum of what all people use, divided by that of all budgets, both converted to float")
    static void shareFromNothingToAll() {
        VideoBridge x = Bridges.oneRoom(2);
        x.setBudget(0, 1600);
        x.setBudget(1, 1600);
        answers(1f, () -> x.usedShare());
        x.setBudget(1, 1599);
        answers(2000f / 3199f, () -> x.usedShare());
        x.addPerson(9999);
        answers(2000f / 13198f, () -> x.usedShare());
        x.leave(0);
        answers(0f, () -> x.usedShare());
        VideoBridge full = Bridges.oneRoom(10);
        answers(96000f / 99990f, () -> full.usedShare());
    }

    @Sentence(of = 32, says = "Throws `ArithmeticException` if the sum of all budgets is 0")
    static void noShareWithoutBudgets() {
        refuses(ARITHMETIC, () -> new VideoBridge().usedShare());
        VideoBridge x = Bridges.oneRoom(2);
        x.setBudget(0, 0);
        answers(1600f / 9999f, () -> x.usedShare());
        x.setBudget(1, 0);
        refuses(ARITHMETIC, () -> x.usedShare());
        x.setBudget(1, 1);
        answers(0f, () -> x.usedShare());
    }
}
