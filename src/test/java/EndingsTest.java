/** "Terms", the paragraphs Houses and Endings, sentence by sentence. */
public final class EndingsTest {
    private static final int NOTHING = CandleStatute.NOTHING;

    public static void main(String[] args) {
        heirsAtFirst();
        theFirstOpenOneIsMet();
        noneIsMet();
        notMetItself();
        theLastOpenHouse();
        storeAndPooledWax();
        theLightThatIsOwedToIt();
        itsWritsAreGone();
        itsStubsGoToTheHeir();
        oneAfterTheOther();
        meltedIntoTheStore();
        owingItsOwnHouse();
        snuffedByItsOwnHouse();
        meltedOnesOweNothing();
        endedTwice();
        Due.end("EndingsTest");
    }

    private static void heirsAtFirst() {
        int[] heirs = {1, 2, 3, 4, 5, 0};
        for (int house = 0; house < 6; house++) {
            CandleStatute x = new CandleStatute();
            Due.dueText("a house at first", "1 " + heirs[house] + " 0 0 0 0 0 0", Due.houseOf(x, house));
            Due.due("inherits", heirs[house], x.inherits(house));
            Due.due("end", heirs[house], x.end(house));
            Due.dueText("an ended one", "0 " + heirs[house] + " 0 0 0 0 0 0", Due.houseOf(x, house));
        }
    }

    private static void theFirstOpenOneIsMet() {
        dueHeir("its heir", "523450", "", 0, 5);
        dueHeir("past one that has ended", "123450", "1", 0, 2);
        dueHeir("past four that have ended", "123450", "1234", 0, 5);
        dueHeir("past three, not to the lowest", "123550", "123", 0, 5);
        dueHeir("past the last house", "123450", "0", 5, 1);
        dueHeir("past three, and the last house", "123450", "501", 4, 2);
        dueHeir("by the heir of the one that has ended", "143450", "1", 0, 4);
        dueHeir("by two heirs that were told", "153443", "15", 0, 3);
        dueHeir("past two, to a lower one", "123452", "45", 3, 2);
        dueHeir("not the lowest, but the first", "423450", "", 0, 4);
        dueHeir("not farther than the first", "143210", "", 0, 1);
        dueHeir("backwards", "501234", "54", 0, 3);
    }

    private static void noneIsMet() {
        dueHeir("its own heir", "023450", "", 0, 1);
        dueHeir("its own heir", "123350", "", 3, 0);
        dueHeir("the lowest open one", "023450", "1", 0, 2);
        dueHeir("the lowest open one", "023450", "123", 0, 4);
        dueHeir("the highest is the lowest open one", "023450", "1234", 0, 5);
        dueHeir("one that has ended and is its own heir", "113450", "1", 0, 2);
        dueHeir("two that have ended in a round", "121450", "12", 0, 3);
        dueHeir("two that have ended in a round", "153441", "15", 0, 2);
        dueHeir("three that have ended in a round", "121453", "345", 2, 1);
        dueHeir("a long way to a round", "123444", "1234", 0, 5);
        dueHeir("the lowest below it", "123454", "4", 5, 0);
    }

    private static void notMetItself() {
        dueHeir("back to itself by one that has ended", "103450", "1", 0, 2);
        dueHeir("back to itself by all that have ended", "123450", "0124", 5, 3);
        dueHeir("back to itself by two", "120450", "12", 0, 3);
        dueHeir("back to itself, with lower ones open", "123453", "45", 3, 0);
    }

    private static void dueHeir(String why, String heirs, String ended, int house, int due) {
        CandleStatute x = new CandleStatute();
        endAll(x, ended);
        for (int other = 0; other < 6; other++) {
            x.heir(other, heirs.charAt(other) - '0');
        }
        Due.due(why + ": inherits", due, x.inherits(house));
        Due.due(why + ": end", due, x.end(house));
        Due.due(why + ": ended", 0, x.houseOf(house, 0));
        Due.due(why + ": its heir as told", heirs.charAt(house) - '0', x.houseOf(house, 1));
        Due.due(why + ": the heir is open", 1, x.houseOf(due, 0));
    }

    private static void endAll(CandleStatute x, String houses) {
        for (int i = 0; i < houses.length(); i++) {
            x.end(houses.charAt(i) - '0');
        }
    }

    private static void theLastOpenHouse() {
        for (int last = 0; last < 6; last++) {
            CandleStatute x = new CandleStatute();
            endAll(x, "012345".replace(String.valueOf((char) ('0' + last)), ""));
            Due.due("open houses", 1, x.account(1));
            Due.due("inherits", NOTHING, x.inherits(last));
            Due.due("wouldMelt", NOTHING, x.wouldMelt(last));
            Due.dueRefused(x, "end", x.end(last), "15:" + last);
            Due.due("it is open", 1, x.houseOf(last, 0));
            Due.due("a stub of it", 0, x.stub(last, 30, 9));
            x.undo();
            x.undo();
            Due.due("the last but one", 2, x.account(1));
            Due.due("inherits", 1, x.inherits(last) >= 0 ? 1 : 0);
            Due.due("end", x.inherits(last), x.end(last));
        }
    }

    private static void storeAndPooledWax() {
        CandleStatute x = new CandleStatute();
        x.stub(0, 20, 1);
        x.stub(1, 20, 1);
        x.pool(0, 4);
        x.pool(1, 3);
        x.share();
        x.pool(0, 2);
        x.pool(1, 5);
        Due.due("end", 1, x.end(0));
        Due.due("both stores", 7, x.houseOf(1, 2));
        Due.due("both have pooled", 7, x.houseOf(1, 3));
        Due.due("the pool is as before", 7, x.account(5));
        Due.due("its store", 0, x.houseOf(0, 2));
        Due.due("its pooled wax", 0, x.houseOf(0, 3));
        Due.due("isBalanced", 1, x.isBalanced());
    }

    private static void theLightThatIsOwedToIt() {
        CandleStatute x = new CandleStatute();
        x.stub(2, 10, 1);
        x.stub(3, 10, 1);
        x.stub(4, 10, 1);
        x.owe(0, 0, 90);
        x.owe(1, 0, 1);
        x.owe(2, 1, 7);
        x.end(0);
        Due.dueText("owed to the heir", "2 10 1 1 90 0 - 0", Due.stubOf(x, 0));
        Due.dueText("owed to the heir", "3 10 1 1 1 0 - 0", Due.stubOf(x, 1));
        Due.dueText("owed to it before", "4 10 1 1 7 0 - 0", Due.stubOf(x, 2));
        Due.due("the heir's claim", 98, x.houseOf(1, 4));
        Due.due("its claim", 0, x.houseOf(0, 4));
        Due.due("as much is owed as before", 98, x.account(10));
        Due.due("paid to the heir", 1, x.burn(1, 2));
        x.end(1);
        Due.due("its heir's heir, and not its own stub", 7, x.houseOf(2, 4));
    }

    private static void itsWritsAreGone() {
        CandleStatute x = new CandleStatute();
        x.stub(2, 10, 1);
        x.stub(3, 10, 1);
        x.stub(4, 10, 1);
        x.writ(0, 0, 24);
        x.writ(0, 2, 1);
        x.writ(1, 1, 9);
        x.end(0);
        Due.dueText("snuffed no more", "2 10 1 - 0 0 - 0", Due.stubOf(x, 0));
        Due.dueText("snuffed no more", "4 10 1 - 0 0 - 0", Due.stubOf(x, 2));
        Due.dueText("a writ of another", "3 10 1 - 0 9 1 0", Due.stubOf(x, 1));
        Due.due("its writs", 0, x.houseOf(0, 6));
        Due.due("not the heir's either", 1, x.houseOf(1, 6));
        Due.due("burning", 0, x.burn(0, 1));
        Due.due("room for another of the heir", 2, x.writ(1, 0, 5));
    }

    private static void itsStubsGoToTheHeir() {
        CandleStatute x = new CandleStatute();
        x.stub(0, 10, 4);
        x.stub(5, 11, 5);
        x.stub(0, 12, 6);
        x.burn(0, 2);
        x.owe(2, 4, 30);
        x.writ(3, 2, 8);
        Due.due("end", 1, x.end(0));
        Due.dueText("with the light that it gave", "1 8 4 - 0 0 - 8", Due.stubOf(x, 0));
        Due.dueText("of another house", "5 11 5 - 0 0 - 0", Due.stubOf(x, 1));
        Due.dueText("with what it owes, and its writ", "1 12 6 4 30 8 3 0", Due.stubOf(x, 2));
        Due.dueText("the heir", "1 2 0 0 0 2 0 30", Due.houseOf(x, 1));
        Due.dueText("the ended one", "0 1 0 0 0 0 0 0", Due.houseOf(x, 0));
        Due.due("the trays", 22, x.weight(1));
        Due.due("the trays", 0, x.weight(0));
    }

    /** The wax of the heir's stub, 0 without one, and of the stubs that go to it, and what is melted. */
    private static void oneAfterTheOther() {
        dueMelted(0, "30 28", "", 0);
        dueMelted(30, "28", "", 0);
        dueMelted(30, "29", "29", 29);
        dueMelted(29, "29", "", 0);
        dueMelted(29, "30", "30", 30);
        dueMelted(29, "30 1", "30", 30);
        dueMelted(29, "1 27", "", 0);
        dueMelted(29, "1 28", "28", 28);
        dueMelted(29, "28 1", "1", 1);
        dueMelted(29, "28 29", "29", 29);
        dueMelted(29, "20 15 6 1", "15", 15);
        dueMelted(29, "20 15 8 1", "15 1", 16);
        dueMelted(29, "28 2 3 4 5 6 5", "2 3 4 5 6 5", 25);
        dueMelted(1, "30 27", "27", 27);
        dueMelted(1, "27 30", "30", 30);
    }

    private static void dueMelted(int ofHeir, String ofEnded, String melted, int store) {
        CandleStatute x = new CandleStatute();
        if (ofHeir > 0) {
            x.stub(1, ofHeir, 1);
        }
        for (String wax : ofEnded.split(" ")) {
            x.stub(0, Integer.parseInt(wax), 1);
        }
        String all = Due.waxOf(x);
        int count = melted.isEmpty() ? 0 : melted.split(" ").length;
        Due.due("would melt of " + all, count, x.wouldMelt(0));
        Due.dueText("none is melted yet", all, Due.waxOf(x));
        int stubs = x.account(0);
        x.end(0);
        Due.due("stubs left of " + all, stubs - count, x.account(0));
        Due.due("melted of " + all, store, x.houseOf(1, 2));
        Due.due("all are of the heir", x.account(0), x.houseOf(1, 5));
        Due.due("its tray bears them", 1, x.weight(1) <= 60 ? 1 : 0);
        Due.due("isBalanced", 1, x.isBalanced());
    }

    private static void meltedIntoTheStore() {
        CandleStatute x = new CandleStatute();
        x.stub(0, 20, 2);
        x.stub(1, 30, 3);
        x.stub(0, 21, 4);
        x.stub(2, 5, 5);
        x.stub(0, 8, 6);
        x.pool(3, 1);
        // 31 on the tray of 1, then 21 more; 22 more and 9 more are too many
        Due.due("would melt", 2, x.wouldMelt(0));
        x.end(0);
        Due.dueText("left", "20 30 4", Due.waxOf(x));
        Due.due("the third is the fourth of before", 2, x.stubOf(2, 0));
        Due.due("the heir's store", 29, x.houseOf(1, 2));
        Due.due("not pooled", 0, x.houseOf(1, 3));
        Due.due("weight", 52, x.weight(1));
        Due.due("moulded of what was melted", 3, x.mould(1, 7, 1));
    }

    private static void owingItsOwnHouse() {
        CandleStatute x = new CandleStatute();
        x.stub(1, 10, 1);
        x.stub(0, 11, 1);
        x.stub(0, 12, 1);
        x.stub(1, 13, 1);
        x.owe(0, 0, 20);
        x.owe(1, 1, 30);
        x.owe(2, 5, 40);
        x.owe(3, 5, 50);
        x.end(0);
        Due.dueText("of the heir, to the ended one", "1 10 1 - 0 0 - 0", Due.stubOf(x, 0));
        Due.dueText("of the ended one, to the heir", "1 11 1 - 0 0 - 0", Due.stubOf(x, 1));
        Due.dueText("of the ended one, to another", "1 12 1 5 40 0 - 0", Due.stubOf(x, 2));
        Due.dueText("of the heir, to another", "1 13 1 5 50 0 - 0", Due.stubOf(x, 3));
        Due.due("owed", 90, x.account(10));
        Due.due("not paid", 0, x.account(9));
        Due.due("it can owe anew", 120, x.owe(0, 5, 30));
    }

    private static void snuffedByItsOwnHouse() {
        CandleStatute x = new CandleStatute();
        x.stub(0, 10, 1);
        x.stub(0, 11, 1);
        x.stub(0, 12, 1);
        x.stub(1, 13, 1);
        x.writ(1, 0, 5);
        x.writ(1, 1, 24);
        x.writ(2, 2, 7);
        x.writ(2, 3, 8);
        x.end(0);
        Due.dueText("by the heir", "1 10 1 - 0 0 - 0", Due.stubOf(x, 0));
        Due.dueText("by the heir", "1 11 1 - 0 0 - 0", Due.stubOf(x, 1));
        Due.dueText("by another", "1 12 1 - 0 7 2 0", Due.stubOf(x, 2));
        Due.dueText("of the heir, by another", "1 13 1 - 0 8 2 0", Due.stubOf(x, 3));
        Due.due("writs", 2, x.account(2));
        Due.due("writs of the heir", 0, x.houseOf(1, 6));
        Due.due("burning", 0, x.burn(0, 1));
    }

    private static void meltedOnesOweNothing() {
        CandleStatute x = new CandleStatute();
        x.stub(1, 29, 1);
        x.stub(1, 28, 1);
        x.stub(0, 5, 1);
        x.stub(0, 6, 1);
        x.owe(2, 3, 20);
        x.owe(3, 1, 30);
        x.writ(3, 2, 5);
        x.writ(1, 3, 5);
        x.end(0);
        Due.dueText("left", "29 28", Due.waxOf(x));
        Due.due("owed", 0, x.account(10));
        Due.due("claim", 0, x.houseOf(3, 4));
        Due.due("claim", 0, x.houseOf(1, 4));
        Due.due("writs", 0, x.account(2));
        Due.due("writs", 0, x.houseOf(3, 6));
        Due.due("store", 11, x.houseOf(1, 2));
        Due.dueReal("none is snuffed", 0.0f, x.snuffedShare());
    }

    private static void endedTwice() {
        CandleStatute x = new CandleStatute();
        x.stub(0, 30, 1);
        x.stub(1, 30, 1);
        x.stub(2, 29, 1);
        Due.due("31 and 31", 1, x.wouldMelt(0));
        x.end(0);
        Due.due("31 and 30", 1, x.wouldMelt(1));
        x.end(1);
        Due.dueText("melted, and inherited", "0 0 60 0 0 0", Due.storesOf(x));
        Due.dueRefused(x, "a second time", x.end(0), "2:0");
        Due.due("inherits", NOTHING, x.inherits(0));
        Due.due("wouldMelt", NOTHING, x.wouldMelt(0));
        Due.due("isBalanced", 1, x.isBalanced());
    }
}
