/** Each number of each call just outside and just inside its range, and codes in the order of their list. */
public final class RangesTest {
    private static final int NONE = CandleStatute.NONE;
    private static final int BAD = CandleStatute.BAD;

    /** A call with one of its numbers left open. */
    private interface NumberCall {
        int on(CandleStatute x, int number);
    }

    public static void main(String[] args) {
        stubs();
        lightAndWrits();
        thePool();
        houses();
        orders();
        textsAndLines();
        accounts();
        noneAheadOfBad();
        badAheadOfReasons();
        withoutStubs();
        Due.end("RangesTest");
    }

    private static void stubs() {
        dueRange("stub, house", NONE, 0, 5, (x, number) -> x.stub(number, 1, 1));
        dueRange("stub, wax", BAD, 1, 30, (x, number) -> x.stub(1, number, 1));
        dueRange("stub, wick", BAD, 1, 9, (x, number) -> x.stub(1, 1, number));
        dueRange("burn, stub", NONE, 0, 2, (x, number) -> x.burn(number, 1));
        dueRange("burn, hours", BAD, 1, 30, (x, number) -> x.burn(0, number));
        dueRange("stubOf, stub", NONE, 0, 2, (x, number) -> x.stubOf(number, 0));
        dueRange("stubOf, what", BAD, 0, 7, (x, number) -> x.stubOf(2, number));
    }

    private static void lightAndWrits() {
        dueRange("owe, stub", NONE, 0, 2, (x, number) -> x.owe(number, 0, 1));
        dueRange("owe, house", NONE, 0, 5, (x, number) -> x.owe(0, number, 1));
        dueRange("owe, light", BAD, 1, 90, (x, number) -> x.owe(0, 0, number));
        dueRange("writ, house", NONE, 0, 5, (x, number) -> x.writ(number, 0, 1));
        dueRange("writ, stub", NONE, 0, 2, (x, number) -> x.writ(0, number, 1));
        dueRange("writ, hours", BAD, 1, 24, (x, number) -> x.writ(0, 0, number));
    }

    private static void thePool() {
        dueRange("pool, stub", NONE, 0, 2, (x, number) -> x.pool(number, 1));
        dueRange("pool, wax", BAD, 1, 30, (x, number) -> x.pool(0, number));
        dueRange("part", NONE, 0, 5, (x, number) -> x.part(number));
        dueRange("partAgain", NONE, 0, 5, (x, number) -> x.partAgain(number));
        dueRange("mould, house", NONE, 0, 5, (x, number) -> x.mould(number, 1, 1));
        dueRange("mould, wax", BAD, 1, 30, (x, number) -> x.mould(0, number, 1));
        dueRange("mould, wick", BAD, 1, 9, (x, number) -> x.mould(5, 1, number));
    }

    private static void houses() {
        dueRange("heir, house", NONE, 0, 5, (x, number) -> x.heir(number, 3));
        dueRange("heir, heir", NONE, 0, 5, (x, number) -> x.heir(3, number));
        dueRange("end", NONE, 0, 5, (x, number) -> x.end(number));
        dueRange("pass", BAD, 1, 24, (x, number) -> x.pass(number));
        dueRange("houseOf, house", NONE, 0, 5, (x, number) -> x.houseOf(number, 0));
        dueRange("houseOf, what", BAD, 0, 7, (x, number) -> x.houseOf(5, number));
        dueRange("inherits", NONE, 0, 5, (x, number) -> x.inherits(number));
        dueRange("wouldMelt", NONE, 0, 5, (x, number) -> x.wouldMelt(number));
        dueRange("weight", NONE, 0, 5, (x, number) -> x.weight(number));
        dueRange("weightAgain", NONE, 0, 5, (x, number) -> x.weightAgain(number));
    }

    private static void orders() {
        dueRange("ranked", NONE, 0, 5, (x, number) -> x.ranked(number));
        dueRange("brightest", NONE, 0, 2, (x, number) -> x.brightest(number));
    }

    private static void textsAndLines() {
        dueRange("append", BAD, 32, 126, (x, number) -> x.append(number));
        dueRange("tell", NONE, 0, 2, (x, number) -> x.tell(number));
        // the line is "2@3:29/9"
        dueRange("character", NONE, 0, 7, (x, number) -> x.character(number));
    }

    private static void accounts() {
        dueRange("reason, depth", BAD, 0, 2, (x, number) -> x.reason(number, false));
        dueRange("reason, depth of a detail", BAD, 0, 2, (x, number) -> x.reason(number, true));
        dueRange("account", BAD, 0, 13, (x, number) -> x.account(number));
    }

    /** The least and the most get an answer that is no code, or NOTHING; those between may also be refused. */
    private static void dueRange(String number, int code, int least, int most, NumberCall call) {
        int[] outside = {Integer.MIN_VALUE, -65536, least - 2, least - 1, most + 1, most + 2, most + 65536,
            Integer.MAX_VALUE};
        for (int wrong : outside) {
            CandleStatute x = Due.after(RangesTest::prepare);
            Due.due(number + " " + wrong, code, call.on(x, wrong));
        }
        for (int right = least; right <= most; right++) {
            CandleStatute x = Due.after(RangesTest::prepare);
            int answer = call.on(x, right);
            boolean isRefused = answer == CandleStatute.REFUSED && right > least && right < most;
            boolean isAnswer = answer >= 0 || answer == CandleStatute.NOTHING || isRefused;
            Due.due(number + " " + right + " answered " + answer, 1, isAnswer ? 1 : 0);
        }
    }

    /** Two stubs of house 4 and one of 3, none of another, and 30 in the stores of 0 and 5. */
    private static void prepare(CandleStatute x) {
        Scenes.fillStores(x);
        x.stub(4, 30, 1);
        x.stub(4, 28, 9);
        x.stub(3, 29, 9);
        x.tell(2);
        Due.runText(x, "b0*31");
        x.burn(2, 30);
    }

    private static void noneAheadOfBad() {
        CandleStatute x = Due.after(RangesTest::prepare);
        int[] houses = {-1, 6};
        int[] stubs = {-1, 3};
        for (int i = 0; i < 2; i++) {
            Due.due("stub", NONE, x.stub(houses[i], 0, 1));
            Due.due("stub", NONE, x.stub(houses[i], 1, 10));
            Due.due("burn", NONE, x.burn(stubs[i], 31));
            Due.due("owe, stub", NONE, x.owe(stubs[i], 0, 0));
            Due.due("owe, house", NONE, x.owe(0, houses[i], 91));
            Due.due("writ, house", NONE, x.writ(houses[i], 0, 25));
            Due.due("writ, stub", NONE, x.writ(0, stubs[i], 0));
            Due.due("stubOf", NONE, x.stubOf(stubs[i], 8));
            Due.due("pool", NONE, x.pool(stubs[i], 31));
            Due.due("mould", NONE, x.mould(houses[i], 31, 1));
            Due.due("mould", NONE, x.mould(houses[i], 1, 0));
            Due.due("houseOf", NONE, x.houseOf(houses[i], -1));
        }
    }

    /** A number out of range is told ahead of every reason, and leaves the reasons as they are. */
    private static void badAheadOfReasons() {
        CandleStatute x = Due.after(RangesTest::prepare);
        x.end(2);
        x.owe(0, 1, 5);
        x.writ(1, 1, 5);
        x.heir(0, 1);
        Due.dueReasons(x, "14:1");
        Due.due("stub of an ended house", BAD, x.stub(2, 31, 1));
        Due.due("stub of an ended house", BAD, x.stub(2, 1, 0));
        Due.due("stub on a full tray", BAD, x.stub(4, 31, 1));
        Due.due("a snuffed stub", BAD, x.burn(1, 0));
        Due.due("a stub with too little wax", BAD, x.burn(2, 31));
        Due.due("owing to an ended house", BAD, x.owe(0, 2, 0));
        Due.due("owing to its own", BAD, x.owe(0, 4, 91));
        Due.due("a writ of an ended house", BAD, x.writ(2, 0, 0));
        Due.due("a writ of its own", BAD, x.writ(4, 0, 25));
        Due.due("a snuffed stub", BAD, x.writ(0, 1, 0));
        Due.due("a stub with too little wax", BAD, x.pool(2, 31));
        Due.due("an ended house", BAD, x.mould(2, 0, 1));
        Due.due("an empty store", BAD, x.mould(1, 31, 1));
        Due.due("no house", NONE, x.heir(6, 6));
        Due.due("no stub, of an ended house", NONE, x.owe(3, 2, 1));
        Due.due("no stub, for an ended house", NONE, x.writ(2, 3, 1));
        Due.dueReasons(x, "14:1");
    }

    private static void withoutStubs() {
        CandleStatute x = new CandleStatute();
        Due.due("burn", NONE, x.burn(0, 1));
        Due.due("owe", NONE, x.owe(0, 0, 1));
        Due.due("writ", NONE, x.writ(0, 0, 1));
        Due.due("stubOf", NONE, x.stubOf(0, 0));
        Due.due("pool", NONE, x.pool(0, 1));
        Due.due("brightest", NONE, x.brightest(0));
        Due.due("tell", NONE, x.tell(0));
        Due.due("an empty line", NONE, x.character(0));
        Due.due("an empty line", NONE, x.character(-1));
        Due.due("ranked", 5, x.ranked(5));
    }
}
