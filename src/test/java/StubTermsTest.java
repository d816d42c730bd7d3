/** "Terms", the paragraphs Stubs, Burning and Writs, sentence by sentence. */
public final class StubTermsTest {
    private static final int NONE = CandleStatute.NONE;
    private static final int NOTHING = CandleStatute.NOTHING;

    public static void main(String[] args) {
        twelveStubsAreThere();
        twelveStubsWithMoulding();
        laterNumbersBecomeOneLess();
        leastAndMostOfAStub();
        aStubWeighsItsWaxAndOne();
        aTrayBears60();
        aTrayBears60OfMouldedOnes();
        aStubOwesUntilItIsPaid();
        anHourTakesOneOfWax();
        paidAsFarAsOwed();
        aStubWithoutWaxIsGone();
        snuffedForItsHours();
        snuffedForAllHoursOfADay();
        aHouseHasTwoWrits();
        eachHouseHasTwoWritsOfItsOwn();
        eachWritLastsAnHourLess();
        Due.end("StubTermsTest");
    }

    private static void twelveStubsAreThere() {
        CandleStatute x = new CandleStatute();
        for (int i = 0; i < 12; i++) {
            Due.due("numbered from 0", i, x.stub(i % 6, 1 + i, 1));
        }
        Due.dueRefused(x, "a thirteenth", x.stub(0, 1, 1), "1:12");
        Due.due("stubs", 12, x.account(0));
        Due.due("one goes", 0, x.burn(4, 5));
        Due.due("room for one", 11, x.stub(0, 20, 1));
        Due.dueRefused(x, "and no more", x.stub(0, 1, 1), "1:12");
        Due.dueText("wax", "1 2 3 4 6 7 8 9 10 11 12 20", Due.waxOf(x));
    }

    private static void twelveStubsWithMoulding() {
        CandleStatute x = new CandleStatute();
        x.stub(0, 2, 1);
        x.pool(0, 2);
        x.share();
        for (int i = 0; i < 11; i++) {
            x.stub(i % 6, 1, 1);
        }
        Due.due("the twelfth is moulded", 11, x.mould(0, 1, 1));
        Due.dueRefused(x, "a thirteenth", x.mould(0, 1, 1), "1:12");
        Due.due("the store is as before", 1, x.houseOf(0, 2));
        x.burn(11, 1);
        Due.due("room for one", 11, x.mould(0, 1, 1));
    }

    private static void laterNumbersBecomeOneLess() {
        String[] wicks = {"2 3 4", "1 3 4", "1 2 4", "1 2 3"};
        for (int place = 0; place < 4; place++) {
            for (int way = 0; way < 3; way++) {
                CandleStatute x = fourStubs(place);
                int answer = way == 0 ? x.burn(place, 5) : way == 1 ? x.pool(place, 5) : x.end(0);
                Due.due("the stub at " + place + " goes", 1, answer >= 0 ? 1 : 0);
                Due.dueText("those that are left", "29 28 9", Due.waxOf(x));
                Due.dueText("with their wicks", wicks[place],
                        x.stubOf(0, 2) + " " + x.stubOf(1, 2) + " " + x.stubOf(2, 2));
                Due.due("no fourth one", NONE, x.stubOf(3, 0));
            }
        }
    }

    /** The stub at that place has 5 of wax, and is of house 0, whose heir's tray bears no more. */
    private static CandleStatute fourStubs(int place) {
        int[] houses = {1, 1, 2};
        int[] wax = {29, 28, 9};
        CandleStatute x = new CandleStatute();
        int other = 0;
        for (int i = 0; i < 4; i++) {
            if (i == place) {
                x.stub(0, 5, 1 + i);
            } else {
                x.stub(houses[other], wax[other], 1 + i);
                other++;
            }
        }
        return x;
    }

    private static void leastAndMostOfAStub() {
        CandleStatute x = new CandleStatute();
        x.stub(0, 1, 1);
        x.stub(5, 30, 9);
        Due.dueText("the least", "0 1 1 - 0 0 - 0", Due.stubOf(x, 0));
        Due.dueText("the most", "5 30 9 - 0 0 - 0", Due.stubOf(x, 1));
    }

    private static void aStubWeighsItsWaxAndOne() {
        CandleStatute x = new CandleStatute();
        x.stub(0, 1, 9);
        x.stub(1, 30, 1);
        Due.due("whatever its wick is", 2, x.weight(0));
        Due.due("the heaviest", 31, x.weight(1));
        x.burn(1, 4);
        Due.due("burning takes off", 27, x.weight(1));
        x.pool(1, 6);
        Due.due("pooling takes off", 21, x.weight(1));
        x.owe(1, 0, 90);
        x.writ(0, 1, 24);
        Due.due("light and writs weigh nothing", 21, x.weight(1));
        Due.due("by the second way", 21, x.weightAgain(1));
        x.pool(1, 20);
        Due.due("a tray without stubs", 0, x.weight(1));
    }

    private static void aTrayBears60() {
        CandleStatute x = new CandleStatute();
        x.stub(1, 30, 1);
        x.stub(0, 30, 1);
        Due.dueRefused(x, "61", x.stub(0, 29, 1), "3:61");
        Due.due("60", 2, x.stub(0, 28, 9));
        Due.due("weight", 60, x.weight(0));
        Due.dueRefused(x, "2 more", x.stub(0, 1, 1), "3:62");
        x.burn(1, 1);
        Due.dueRefused(x, "59 and 2 more", x.stub(0, 1, 1), "3:61");
        x.burn(1, 1);
        Due.due("58 and 2 more", 3, x.stub(0, 1, 1));
        Due.dueRefused(x, "the most that could be", x.stub(0, 30, 1), "3:91");
        Due.due("the tray of another", 4, x.stub(1, 28, 1));
    }

    private static void aTrayBears60OfMouldedOnes() {
        CandleStatute x = new CandleStatute();
        x.stub(2, 30, 1);
        x.pool(0, 30);
        x.share();
        x.stub(2, 30, 1);
        Due.dueRefused(x, "61", x.mould(2, 29, 1), "3:61");
        Due.due("60", 1, x.mould(2, 28, 1));
        Due.due("weight", 60, x.weight(2));
        Due.dueRefused(x, "62", x.mould(2, 1, 1), "3:62");
        Due.due("the store", 2, x.houseOf(2, 2));
    }

    private static void aStubOwesUntilItIsPaid() {
        CandleStatute x = new CandleStatute();
        x.stub(0, 30, 9);
        Due.due("the least", 1, x.owe(0, 1, 1));
        x.burn(0, 1);
        Due.due("paid", NOTHING, x.stubOf(0, 3));
        Due.due("the most", 90, x.owe(0, 2, 90));
        Due.due("paid in part", 81, x.burn(0, 9));
        Due.dueRefused(x, "still owing 9", x.owe(0, 1, 5), "7:2");
        Due.due("the rest", 9, x.burn(0, 1));
        Due.due("owing anew", 5, x.owe(0, 1, 5));
    }

    private static void anHourTakesOneOfWax() {
        CandleStatute x = new CandleStatute();
        x.stub(0, 30, 9);
        x.stub(1, 2, 1);
        x.burn(0, 1);
        Due.dueText("an hour", "0 29 9 - 0 0 - 9", Due.stubOf(x, 0));
        x.burn(0, 3);
        Due.dueText("three more", "0 26 9 - 0 0 - 36", Due.stubOf(x, 0));
        x.burn(1, 1);
        Due.dueText("the last hour but one", "1 1 1 - 0 0 - 1", Due.stubOf(x, 1));
        Due.due("wax burnt", 5, x.account(7));
        Due.due("light given", 37, x.account(8));
        Due.due("light paid", 0, x.account(9));
    }

    /** Two hours of a wick of 3 give 6. */
    private static void paidAsFarAsOwed() {
        int[] owed = {1, 5, 6, 7, 90};
        int[] paid = {1, 5, 6, 6, 6};
        for (int i = 0; i < owed.length; i++) {
            CandleStatute x = new CandleStatute();
            x.stub(0, 10, 3);
            x.owe(0, 4, owed[i]);
            Due.due("paid of " + owed[i], paid[i], x.burn(0, 2));
            Due.due("owed then", owed[i] - paid[i], x.stubOf(0, 4));
            Due.due("to whom", owed[i] > paid[i] ? 4 : NOTHING, x.stubOf(0, 3));
            Due.due("claim", owed[i] - paid[i], x.houseOf(4, 4));
            Due.due("all that is owed", owed[i] - paid[i], x.account(10));
            Due.due("all that was paid", paid[i], x.account(9));
            Due.due("all that was given", 6, x.account(8));
        }
    }

    private static void aStubWithoutWaxIsGone() {
        CandleStatute x = new CandleStatute();
        x.stub(0, 3, 2);
        x.owe(0, 1, 7);
        Due.dueRefused(x, "an hour too many", x.burn(0, 4), "4:0 6:3");
        Due.due("all its hours", 6, x.burn(0, 3));
        Due.due("gone", NONE, x.stubOf(0, 0));
        Due.due("stubs", 0, x.account(0));
        Due.due("the last 1 is forgotten", 0, x.account(10));
        Due.due("no claim", 0, x.houseOf(1, 4));
        Due.due("the light was given", 6, x.account(8));
        Due.due("the light was paid", 6, x.account(9));
        Due.due("the wax was burnt", 3, x.account(7));
        x.stub(0, 30, 9);
        Due.due("30 hours", 0, x.burn(0, 30));
        Due.due("gone", 0, x.account(0));
    }

    private static void snuffedForItsHours() {
        CandleStatute x = new CandleStatute();
        x.stub(0, 9, 1);
        Due.due("the least", 1, x.writ(1, 0, 1));
        Due.dueRefused(x, "snuffed", x.burn(0, 1), "4:0 5:1");
        Due.due("an hour", 1, x.pass(1));
        Due.dueText("snuffed no more", "0 9 1 - 0 0 - 0", Due.stubOf(x, 0));
        Due.due("burning", 0, x.burn(0, 1));
        x.writ(1, 0, 5);
        Due.due("hours pass that it was not burnt", 0, x.pass(4));
        Due.dueRefused(x, "snuffed", x.burn(0, 1), "4:0 5:1");
    }

    private static void snuffedForAllHoursOfADay() {
        CandleStatute x = new CandleStatute();
        x.stub(0, 9, 1);
        x.stub(0, 9, 1);
        x.writ(1, 0, 24);
        Due.dueRefused(x, "snuffed", x.burn(0, 1), "4:0 5:24");
        Due.due("the other is not", 0, x.burn(1, 1));
        Due.due("23 hours", 0, x.pass(23));
        Due.dueRefused(x, "snuffed", x.burn(0, 1), "4:0 5:1");
        Due.due("the last hour", 1, x.pass(1));
        Due.due("burning", 0, x.burn(0, 1));
        x.writ(1, 0, 24);
        Due.due("24 hours at once", 1, x.pass(24));
        Due.due("burning", 0, x.burn(0, 1));
    }

    private static void aHouseHasTwoWrits() {
        CandleStatute x = new CandleStatute();
        x.stub(1, 9, 1);
        x.stub(2, 9, 1);
        x.stub(3, 9, 1);
        x.writ(0, 0, 2);
        Due.due("the second", 2, x.writ(0, 1, 3));
        Due.dueRefused(x, "a third", x.writ(0, 2, 4), "1:2");
        x.pass(1);
        Due.dueRefused(x, "both last still", x.writ(0, 2, 4), "1:2");
        Due.due("one ends", 1, x.pass(1));
        Due.due("room for another", 2, x.writ(0, 2, 4));
        Due.dueRefused(x, "and for no more", x.writ(0, 0, 4), "1:2");
        Due.due("its writs", 2, x.houseOf(0, 6));
    }

    private static void eachHouseHasTwoWritsOfItsOwn() {
        CandleStatute x = new CandleStatute();
        for (int i = 0; i < 4; i++) {
            x.stub(2, 9, 1);
        }
        x.writ(0, 0, 5);
        x.writ(0, 1, 5);
        Due.due("the first of another house", 3, x.writ(1, 2, 5));
        Due.due("the second of another house", 4, x.writ(1, 3, 5));
        Due.due("writs of 0", 2, x.houseOf(0, 6));
        Due.due("writs of 1", 2, x.houseOf(1, 6));
        Due.due("no writs of the house that is snuffed", 0, x.houseOf(2, 6));
        Due.dueReal("all are snuffed", 1.0f, x.snuffedShare());
    }

    private static void eachWritLastsAnHourLess() {
        CandleStatute x = new CandleStatute();
        for (int i = 0; i < 5; i++) {
            x.stub(5, 9, 1);
        }
        for (int i = 1; i < 5; i++) {
            x.writ(i / 2, i, i);
        }
        Due.due("1 and 2 hours end", 2, x.pass(2));
        int[] hours = {0, 0, 0, 1, 2};
        int[] houses = {NOTHING, NOTHING, NOTHING, 1, 2};
        for (int i = 0; i < 5; i++) {
            Due.due("snuffed for", hours[i], x.stubOf(i, 5));
            Due.due("snuffed by", houses[i], x.stubOf(i, 6));
        }
        Due.due("writs", 2, x.account(2));
        Due.due("more hours than any lasts", 2, x.pass(24));
        Due.due("not below 0", 0, x.stubOf(4, 5));
        Due.due("none is left to end", 0, x.pass(24));
        Due.due("hours", 50, x.account(11));
    }
}
