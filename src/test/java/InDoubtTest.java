/** "Terms", the two paragraphs In doubt, but for what OrdersTest, EndingsTest, PoolTermsTest and ReasonsTest have. */
public final class InDoubtTest {
    private static final int NONE = CandleStatute.NONE;
    private static final int NOTHING = CandleStatute.NOTHING;

    public static void main(String[] args) {
        lightBeyondWhatIsOwed();
        pooledToTheLast();
        meltedIsNotBurnt();
        aWritAgainstAStubThatGoes();
        aMeltedStubOwesNothing();
        theHeirOfAnEndedHouse();
        lightOfAllStubs();
        remaindersOfWholeDivisions();
        burningPassesNoHours();
        anOrderIsRefusedForItsRange();
        Due.end("InDoubtTest");
    }

    private static void lightBeyondWhatIsOwed() {
        CandleStatute x = new CandleStatute();
        x.stub(0, 20, 9);
        x.stub(0, 20, 9);
        x.owe(0, 1, 10);
        x.owe(1, 1, 50);
        Due.due("of 18", 10, x.burn(0, 2));
        Due.due("paid", 10, x.account(9));
        Due.due("given", 18, x.account(8));
        Due.due("not on behalf of another stub", 50, x.stubOf(1, 4));
        Due.due("claim", 50, x.houseOf(1, 4));
        Due.due("nor kept for later", 5, x.owe(0, 2, 5));
        Due.due("store", 0, x.houseOf(1, 2));
    }

    private static void pooledToTheLast() {
        CandleStatute x = new CandleStatute();
        x.stub(0, 9, 2);
        x.stub(1, 8, 1);
        x.owe(0, 3, 7);
        x.writ(2, 0, 5);
        x.pool(0, 8);
        Due.dueText("not yet gone", "0 1 2 3 7 5 2 0", Due.stubOf(x, 0));
        Due.due("the last", 9, x.pool(0, 1));
        Due.dueText("gone", "1 8 1 - 0 0 - 0", Due.stubOf(x, 0));
        Due.due("gone", NONE, x.stubOf(1, 0));
        Due.due("owed", 0, x.account(10));
        Due.due("claim", 0, x.houseOf(3, 4));
        Due.due("writs", 0, x.account(2));
        Due.due("writs of its house", 0, x.houseOf(2, 6));
        Due.due("nothing was paid", 0, x.account(9));
        Due.due("its wax is in the pool", 9, x.account(5));
    }

    private static void meltedIsNotBurnt() {
        CandleStatute x = new CandleStatute();
        x.stub(0, 30, 9);
        x.stub(1, 30, 9);
        x.burn(0, 1);
        x.end(0);
        Due.due("burnt", 1, x.account(7));
        Due.due("given", 9, x.account(8));
        Due.due("in the stores", 29, x.account(4));
        Due.due("in stubs", 30, x.account(3));
        Due.due("brought", 60, x.account(6));
        Due.due("isBalanced", 1, x.isBalanced());
    }

    private static void aWritAgainstAStubThatGoes() {
        CandleStatute x = new CandleStatute();
        x.stub(1, 30, 1);
        x.stub(0, 30, 1);
        x.stub(2, 9, 1);
        x.stub(2, 8, 1);
        x.writ(3, 1, 5);
        x.writ(3, 2, 6);
        Due.dueRefused(x, "a third", x.writ(3, 3, 7), "1:2");
        x.end(0);
        Due.due("one melted", 1, x.houseOf(3, 6));
        Due.dueText("the other stays", "2 9 1 - 0 6 3 0", Due.stubOf(x, 1));
        Due.due("room for another one", 2, x.writ(3, 2, 7));
        Due.dueRefused(x, "a third", x.writ(3, 0, 7), "1:2");
        x.pool(1, 9);
        Due.due("one pooled", 1, x.houseOf(3, 6));
        Due.dueText("the other stays", "2 8 1 - 0 7 3 0", Due.stubOf(x, 1));
        Due.due("room for another one", 2, x.writ(3, 0, 7));
        Due.due("they end", 2, x.pass(7));
    }

    private static void aMeltedStubOwesNothing() {
        CandleStatute x = new CandleStatute();
        x.stub(1, 30, 1);
        x.stub(0, 30, 1);
        x.owe(0, 2, 11);
        x.owe(1, 2, 12);
        Due.due("owed", 23, x.account(10));
        x.end(0);
        Due.due("owed", 11, x.account(10));
        Due.due("claim", 11, x.houseOf(2, 4));
        Due.due("owed by the heir's stubs", 11, x.houseOf(1, 7));
    }

    private static void theHeirOfAnEndedHouse() {
        CandleStatute x = new CandleStatute();
        x.end(1);
        Due.due("is told", 2, x.houseOf(1, 1));
        Due.due("and on the way", 2, x.inherits(0));
        Due.due("told anew", 2, x.heir(1, 4));
        Due.due("is told", 4, x.houseOf(1, 1));
        Due.due("and on the way", 4, x.inherits(0));
        Due.dueRefused(x, "told so already", x.heir(1, 4), "14:4");
        Due.due("itself", 4, x.heir(1, 1));
        Due.due("none is met then", 2, x.inherits(0));
        Due.due("undo", 2, x.undo());
        Due.due("is told", 4, x.houseOf(1, 1));
    }

    private static void lightOfAllStubs() {
        CandleStatute x = new CandleStatute();
        for (int i = 0; i < 4; i++) {
            x.stub(i, 9, 1);
        }
        Due.due("of one", 90, x.owe(0, 5, 90));
        Due.due("of two", 91, x.owe(1, 5, 1));
        Due.due("to another", 7, x.owe(2, 4, 7));
        Due.due("of three", 181, x.owe(3, 5, 90));
        Due.due("claim", 181, x.houseOf(5, 4));
        Due.due("claim", 7, x.houseOf(4, 4));
        Due.due("ranked", 5, x.ranked(0));
        Due.due("all", 188, x.account(10));
    }

    private static void remaindersOfWholeDivisions() {
        CandleStatute x = new CandleStatute();
        x.stub(0, 20, 1);
        x.stub(1, 20, 1);
        x.owe(0, 1, 50);
        x.owe(1, 2, 20);
        x.pool(0, 7);
        // claims 7, 50 and 20 of 77, for 7: 49/77, 4 42/77, 1 63/77; of the two left, 63 gets one, and 49
        Due.due("part", 1, x.part(0));
        Due.due("part", 4, x.part(1));
        Due.due("part", 2, x.part(2));
        Due.due("partAgain", 1, x.partAgain(0));
        Due.due("partAgain", 4, x.partAgain(1));
        Due.due("partAgain", 2, x.partAgain(2));
    }

    private static void burningPassesNoHours() {
        CandleStatute x = new CandleStatute();
        x.stub(0, 30, 1);
        x.stub(1, 9, 1);
        x.writ(2, 1, 5);
        x.burn(0, 24);
        Due.due("hours", 0, x.account(11));
        Due.due("snuffed as long as before", 5, x.stubOf(1, 5));
        Due.due("and passing burns nothing", 0, x.pass(4));
        Due.due("wax", 6, x.stubOf(0, 1));
        Due.due("light", 24, x.account(8));
        Due.due("hours", 4, x.account(11));
    }

    private static void anOrderIsRefusedForItsRange() {
        CandleStatute x = new CandleStatute();
        x.stub(0, 9, 1);
        x.end(1);
        Due.dueRefused(x, "a reason", Due.runText(x, "s1:1/1"), "16:0 2:1");
        Due.dueRefused(x, "a number out of range, ahead of it", Due.runText(x, "s1:0/1"), "16:0");
        Due.dueRefused(x, "a reason", Due.runText(x, "b0*30"), "16:0 4:0 6:9");
        Due.dueRefused(x, "a number out of range, ahead of it", Due.runText(x, "b0*31"), "16:0");
        Due.due("none stands there", NOTHING, x.reason(1, false));
    }
}
