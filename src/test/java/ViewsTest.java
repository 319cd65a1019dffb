import java.util.NoSuchElementException;

/** Promises 26 to 32. */
public final class ViewsTest {
    private static final Class<NoSuchElementException> NONE = NoSuchElementException.class;
    private static final Class<ArithmeticException> ARITHMETIC = ArithmeticException.class;

    public static void main(String[] args) {
        promises26And27Steps();
        stepsFollowWhatIsSent();
        speakerIsFirst();
        pinnedIsAheadOfTheSpeaker();
        layersOfOthersAndOneself();
        promise28Used();
        promise29Viewers();
        promise30Sent();
        sentFollowsTheSpeaker();
        promise31MeanLayer();
        promise32UsedShare();
        Check.end();
    }

    private static void seen(VideoBridge x, int budget, String layers) {
        x.setBudget(0, budget);
        Check.answers(layers, () -> Bridges.layers(x, 0, layers.length()));
        Check.answers(layers, () -> Bridges.layersAnew(x, 0, layers.length()));
    }

    private static void promises26And27Steps() {
        VideoBridge x = Bridges.oneRoom(4);
        seen(x, 0, "0000");
        seen(x, 99, "0000");
        seen(x, 100, "0100");
        seen(x, 199, "0100");
        seen(x, 200, "0110");
        seen(x, 299, "0110");
        seen(x, 300, "0111");
        seen(x, 599, "0111");
        seen(x, 600, "0211");
        seen(x, 900, "0221");
        seen(x, 1199, "0221");
        seen(x, 1200, "0222");
        seen(x, 1799, "0222");
        seen(x, 1800, "0311");
        seen(x, 2099, "0311");
        seen(x, 2100, "0321");
        seen(x, 2400, "0322");
        seen(x, 3599, "0322");
        seen(x, 3600, "0332");
        seen(x, 4799, "0332");
        seen(x, 4800, "0333");
        seen(x, 9999, "0333");
    }

    private static void stepsFollowWhatIsSent() {
        VideoBridge x = Bridges.oneRoom(4);
        x.setSends(1, 1);
        seen(x, 600, "0121");
        seen(x, 3600, "0133");
        x.setSends(1, 0);
        seen(x, 100, "0010");
        seen(x, 500, "0021");
        seen(x, 9999, "0033");
        x.setSends(2, 2);
        seen(x, 9999, "0023");
        x.setSends(1, 2);
        seen(x, 1799, "0222");
        seen(x, 2399, "0222");
        seen(x, 2400, "0223");
    }

    private static void speakerIsFirst() {
        VideoBridge x = Bridges.oneRoom(4);
        x.setLoud(2, 20);
        x.pass(1);
        seen(x, 100, "0010");
        seen(x, 600, "0121");
        seen(x, 1800, "0131");
        seen(x, 2100, "0231");
        x.setLoud(0, 30);
        x.pass(3);
        seen(x, 100, "0100");
        seen(x, 1800, "0311");
        x.leave(0);
        x.enter(0, 0);
        seen(x, 100, "0100");
        x.enter(2, x.addRoom());
        seen(x, 1700, "0301");
    }

    private static void pinnedIsAheadOfTheSpeaker() {
        VideoBridge x = Bridges.oneRoom(4);
        x.setLoud(2, 20);
        x.pass(1);
        x.pin(0, 3);
        seen(x, 100, "0001");
        seen(x, 200, "0101");
        seen(x, 300, "0111");
        seen(x, 1800, "0113");
        seen(x, 2100, "0213");
        x.pin(0, 2);
        seen(x, 1800, "0131");
        x.unpin(0);
        seen(x, 100, "0010");
        x.pin(2, 3);
        x.setBudget(2, 100);
        Check.answers("0001", () -> Bridges.layers(x, 2, 4));
    }

    private static void layersOfOthersAndOneself() {
        VideoBridge x = Bridges.oneRoom(3);
        x.addPerson(9999);
        x.setSends(3, 3);
        Check.answers(0, () -> x.layer(0, 0));
        Check.answers(0, () -> x.layerAnew(0, 0));
        Check.answers("0330", () -> Bridges.layers(x, 0, 4));
        Check.answers("0000", () -> Bridges.layers(x, 3, 4));
        Check.answers("0000", () -> Bridges.layersAnew(x, 3, 4));
        x.leave(1);
        Check.answers("0030", () -> Bridges.layers(x, 0, 4));
        Check.answers("0000", () -> Bridges.layers(x, 1, 4));
        x.enter(1, x.addRoom());
        Check.answers("0000", () -> Bridges.layers(x, 1, 4));
        x.enter(3, 1);
        Check.answers("0003", () -> Bridges.layers(x, 1, 4));
        Check.answers("0300", () -> Bridges.layersAnew(x, 3, 4));
        int[][] wrong = {{0, 4}, {4, 0}, {4, 4}, {-1, 0}, {0, -1}, {10, 0}, {0, Integer.MAX_VALUE}};
        for (int[] pair : wrong) {
            Check.refuses(NONE, () -> x.layer(pair[0], pair[1]));
            Check.refuses(NONE, () -> x.layerAnew(pair[0], pair[1]));
        }
    }

    private static void promise28Used() {
        VideoBridge x = Bridges.oneRoom(4);
        x.setSends(1, 1);
        x.setSends(2, 2);
        Check.answers(2100, () -> x.used(0));
        x.setBudget(0, 600);
        Check.answers(600, () -> x.used(0));
        x.setBudget(0, 599);
        Check.answers(300, () -> x.used(0));
        x.leave(0);
        Check.answers(0, () -> x.used(0));
        Check.refuses(NONE, () -> x.used(4));
        Check.refuses(NONE, () -> x.used(-1));
        Check.refuses(NONE, () -> x.used(10));
    }

    private static void promise29Viewers() {
        VideoBridge x = Bridges.oneRoom(4);
        Check.answers(3, () -> x.viewers(0));
        x.setBudget(1, 0);
        Check.answers(2, () -> x.viewers(0));
        x.setBudget(2, 100);
        Check.answers(2, () -> x.viewers(0));
        Check.answers(2, () -> x.viewers(1));
        x.enter(3, x.addRoom());
        Check.answers(1, () -> x.viewers(0));
        x.setSends(0, 0);
        Check.answers(0, () -> x.viewers(0));
        Check.answers(0, () -> x.viewers(3));
        Check.refuses(NONE, () -> x.viewers(4));
        Check.refuses(NONE, () -> x.viewers(-1));
        Check.refuses(NONE, () -> x.viewers(10));
    }

    private static void promise30Sent() {
        VideoBridge x = Bridges.oneRoom(3);
        Check.answers(0L, () -> x.sent());
        x.pass(1);
        Check.answers(9600L, () -> x.sent());
        x.setBudget(0, 200);
        x.pass(2);
        Check.answers(9600L + 2 * 6600L, () -> x.sent());
        x.leave(1);
        Check.answers(22800L, () -> x.sent());
        x.pass(1);
        Check.answers(22800L + 1700L, () -> x.sent());
    }

    /** What the person 0 uses hangs on who is first, so it changes in the very tick of a turn. */
    private static void sentFollowsTheSpeaker() {
        VideoBridge x = Bridges.oneRoom(3);
        x.setBudget(0, 1700);
        x.setBudget(1, 0);
        x.setBudget(2, 0);
        x.setSends(1, 2);
        Check.answers(800, () -> x.used(0));
        x.setLoud(2, 20);
        x.pass(1);
        Check.answers(1700L, () -> x.sent());
        x.setLoud(1, 30);
        x.pass(3);
        Check.answers(1700L * 3 + 800L, () -> x.sent());
    }

    private static void promise31MeanLayer() {
        VideoBridge x = Bridges.oneRoom(3);
        x.setSends(1, 1);
        x.setSends(2, 0);
        Check.answers(8.0 / 6.0, () -> x.meanLayer());
        x.addPerson(5);
        Check.answers(8.0 / 6.0, () -> x.meanLayer());
        x.addRoom();
        x.enter(3, 1);
        Check.answers(8.0 / 6.0, () -> x.meanLayer());
        x.leave(2);
        Check.answers(2.0, () -> x.meanLayer());
        x.setBudget(0, 0);
        x.setBudget(1, 0);
        Check.answers(0.0, () -> x.meanLayer());
        x.leave(1);
        Check.refuses(ARITHMETIC, () -> x.meanLayer());
        x.enter(1, 1);
        Check.answers(0.0, () -> x.meanLayer());
        Check.refuses(ARITHMETIC, () -> new VideoBridge().meanLayer());
    }

    private static void promise32UsedShare() {
        VideoBridge x = Bridges.oneRoom(3);
        Check.answers(9600f / 29997f, () -> x.usedShare());
        x.addPerson(3);
        Check.answers(9600f / 30000f, () -> x.usedShare());
        x.setBudget(0, 200);
        Check.answers(6600f / 20201f, () -> x.usedShare());
        x.leave(0);
        x.leave(1);
        Check.answers(0f, () -> x.usedShare());
        for (int i = 0; i < 4; i++) {
            x.setBudget(i, 0);
        }
        Check.refuses(ARITHMETIC, () -> x.usedShare());
        x.setBudget(3, 1);
        Check.answers(0f, () -> x.usedShare());
        Check.refuses(ARITHMETIC, () -> new VideoBridge().usedShare());
    }
}
