/** Promises 12 to 21: heir, end, pass, houseOf, inherits, wouldMelt, weight, weightAgain, ranked, brightest. */
public final class HousesTest {
    private static final int NONE = CandleStatute.NONE;
    private static final int BAD = CandleStatute.BAD;
    private static final int NOTHING = CandleStatute.NOTHING;

    public static void main(String[] args) {
        promise12();
        promise13();
        promise13HeirInForce();
        promise13Debts();
        promise13Writs();
        promise13Melts();
        promise13JustTooHeavy();
        promise13FirstStub();
        promise14();
        promise15();
        promise16();
        promise17();
        promises18And19();
        promise20();
        promise20Ties();
        promise20Ended();
        promise21();
        Due.end("HousesTest");
    }

    private static void promise12() {
        CandleStatute x = new CandleStatute();
        Due.due("heir", 1, x.heir(0, 4));
        Due.due("heir before", 4, x.heir(0, 0));
        Due.due("heir as told", 0, x.houseOf(0, 1));
        Due.dueRefused(x, "already", x.heir(0, 0), "14:0");
        Due.dueRefused(x, "already", x.heir(5, 0), "14:0");
        Due.dueRefused(x, "already", x.heir(2, 3), "14:3");
        x.end(3);
        Due.due("one that has ended", 5, x.heir(4, 3));
        Due.due("of one that has ended", 4, x.heir(3, 1));
        Due.due("told", 1, x.houseOf(3, 1));
        Due.due("no house", NONE, x.heir(6, 0));
        Due.due("no house", NONE, x.heir(-1, 0));
        Due.due("no heir", NONE, x.heir(0, 6));
        Due.due("no heir", NONE, x.heir(0, -1));
        Due.due("changes", 5, x.account(13));
    }

    private static void promise13() {
        CandleStatute x = new CandleStatute();
        x.stub(2, 30, 3);
        x.pool(0, 10);
        x.share();
        x.pool(0, 4);
        Due.due("end", 3, x.end(2));
        Due.due("open no more", 0, x.houseOf(2, 0));
        Due.due("its store", 0, x.houseOf(2, 2));
        Due.due("the heir's store", 10, x.houseOf(3, 2));
        Due.due("its pooled wax", 0, x.houseOf(2, 3));
        Due.due("the heir's pooled wax", 4, x.houseOf(3, 3));
        Due.due("the pool", 4, x.account(5));
        Due.due("its stub", 3, x.stubOf(0, 0));
        Due.due("heir as told", 3, x.houseOf(2, 1));
        Due.dueRefused(x, "ended", x.end(2), "2:2");
        Due.due("no house", NONE, x.end(6));
        Due.due("no house", NONE, x.end(-1));
        x.end(3);
        x.end(4);
        x.end(5);
        x.end(0);
        Due.dueRefused(x, "last", x.end(1), "15:1");
        Due.dueRefused(x, "ended ahead of last", x.end(0), "2:0");
        Due.due("open houses", 1, x.account(1));
        Due.due("isBalanced", 1, x.isBalanced());
    }

    private static void promise13HeirInForce() {
        CandleStatute x = new CandleStatute();
        Due.due("end", 0, x.end(5));
        Due.due("past an ended one", 0, x.end(4));
        x.heir(2, 2);
        Due.due("its own heir: the lowest open one", 0, x.end(2));
        x.heir(0, 2);
        Due.due("none met: the lowest but itself", 1, x.inherits(0));
        Due.due("past a house that is its own heir", 0, x.inherits(1));
        x.heir(2, 0);
        x.heir(3, 2);
        Due.due("by way of 2 to 0", 0, x.inherits(3));
        x.heir(0, 2);
        Due.due("only itself met", 1, x.inherits(0));
        x.heir(2, 3);
        Due.due("by way of 2 to 3", 3, x.inherits(0));
        Due.due("end", 3, x.end(0));
        Due.due("end", 3, x.end(1));
        Due.due("last", NOTHING, x.inherits(3));
    }

    private static void promise13Debts() {
        CandleStatute x = new CandleStatute();
        x.stub(0, 5, 1);
        x.stub(1, 5, 1);
        x.stub(2, 5, 1);
        x.stub(0, 5, 1);
        x.owe(0, 1, 11);
        x.owe(1, 0, 12);
        x.owe(2, 0, 13);
        x.owe(3, 2, 14);
        Due.due("end", 1, x.end(0));
        Due.due("would owe to its own", 0, x.stubOf(0, 4));
        Due.due("would owe to its own", NOTHING, x.stubOf(0, 3));
        Due.due("would owe to its own", 0, x.stubOf(1, 4));
        Due.due("would owe to its own", NOTHING, x.stubOf(1, 3));
        Due.due("owed to the heir", 1, x.stubOf(2, 3));
        Due.due("owed to the heir", 13, x.stubOf(2, 4));
        Due.due("each with what it owes", 2, x.stubOf(3, 3));
        Due.due("each with what it owes", 14, x.stubOf(3, 4));
        Due.due("claim", 13, x.houseOf(1, 4));
        Due.due("claim", 0, x.houseOf(0, 4));
        Due.due("nothing paid", 0, x.account(9));
    }

    private static void promise13Writs() {
        CandleStatute x = new CandleStatute();
        x.stub(0, 5, 1);
        x.stub(1, 5, 1);
        x.stub(2, 5, 1);
        x.stub(0, 5, 1);
        x.writ(1, 0, 7);
        x.writ(0, 1, 8);
        x.writ(0, 2, 9);
        x.writ(2, 3, 10);
        x.end(0);
        Due.due("of its own house", 0, x.stubOf(0, 5));
        Due.due("of its own house", NOTHING, x.stubOf(0, 6));
        Due.due("of the ended one", 0, x.stubOf(1, 5));
        Due.due("of the ended one", 0, x.stubOf(2, 5));
        Due.due("of the ended one", NOTHING, x.stubOf(2, 6));
        Due.due("of another", 10, x.stubOf(3, 5));
        Due.due("of another", 2, x.stubOf(3, 6));
        Due.due("writs", 1, x.account(2));
        Due.due("writs", 0, x.houseOf(1, 6));
    }

    private static void promise13Melts() {
        CandleStatute x = new CandleStatute();
        x.stub(1, 28, 1);
        x.stub(0, 20, 2);
        x.stub(0, 15, 3);
        x.stub(2, 1, 4);
        x.stub(0, 9, 5);
        x.owe(2, 3, 50);
        x.writ(3, 2, 5);
        // 29 on the tray of 1, then 21 more, then 16 more are too many, then 10 more are just borne
        Due.due("would melt", 1, x.wouldMelt(0));
        Due.due("end", 1, x.end(0));
        Due.due("stubs", 4, x.account(0));
        Due.due("weight", 60, x.weight(1));
        Due.due("melted into the store", 15, x.houseOf(1, 2));
        Due.due("not burnt", 0, x.account(7));
        Due.due("numbers", 2, x.stubOf(2, 0));
        Due.due("numbers", 1, x.stubOf(3, 0));
        Due.due("wick", 5, x.stubOf(3, 2));
        Due.due("owes no more", 0, x.account(10));
        Due.due("no writ", 0, x.account(2));
        Due.due("isBalanced", 1, x.isBalanced());
        CandleStatute y = new CandleStatute();
        y.stub(0, 30, 1);
        y.stub(0, 28, 1);
        y.stub(1, 30, 1);
        y.stub(1, 28, 1);
        Due.due("both melt", 2, y.wouldMelt(0));
        y.end(0);
        Due.due("both melted", 58, y.houseOf(1, 2));
        Due.due("both melted", 2, y.account(0));
    }

    private static void promise13JustTooHeavy() {
        CandleStatute x = new CandleStatute();
        x.stub(1, 29, 1);
        x.stub(0, 30, 1);
        Due.due("end", 1, x.end(0));
        Due.due("61 are too many", 30, x.houseOf(1, 2));
        Due.due("61 are too many", 1, x.account(0));
        x.stub(2, 29, 1);
        Due.due("end", 2, x.end(1));
        Due.due("60 are borne", 60, x.weight(2));
        Due.due("60 are borne", 2, x.stubOf(0, 0));
        Due.due("the store goes along", 30, x.houseOf(2, 2));
        Due.due("isBalanced", 1, x.isBalanced());
    }

    private static void promise13FirstStub() {
        CandleStatute x = new CandleStatute();
        x.stub(3, 10, 1);
        x.owe(0, 0, 12);
        x.writ(0, 0, 5);
        Due.due("its writ", 1, x.houseOf(0, 6));
        x.end(0);
        Due.due("owed to the heir", 1, x.stubOf(0, 3));
        Due.due("its writ is gone", 0, x.stubOf(0, 5));
        Due.due("room for a writ", 1, x.writ(4, 0, 5));
    }

    private static void promise14() {
        CandleStatute x = new CandleStatute();
        for (int i = 0; i < 4; i++) {
            x.stub(i, 10, 1);
        }
        x.writ(0, 1, 5);
        x.writ(0, 2, 6);
        x.writ(1, 3, 24);
        Due.due("none ends", 0, x.pass(4));
        Due.due("an hour left", 1, x.stubOf(1, 5));
        Due.due("both end", 2, x.pass(2));
        Due.due("snuffed by none", NOTHING, x.stubOf(1, 6));
        Due.due("snuffed no more", 0, x.stubOf(1, 5));
        Due.due("18 left", 18, x.stubOf(3, 5));
        Due.due("ends", 1, x.pass(24));
        Due.due("none is there", 0, x.pass(1));
        Due.due("hours", 31, x.account(11));
        Due.due("wax", 40, x.account(3));
        Due.due("hours 0", BAD, x.pass(0));
        Due.due("hours 25", BAD, x.pass(25));
        Due.due("hours -1", BAD, x.pass(-1));
        Due.due("hours", 31, x.account(11));
        Due.due("changes", 8, x.account(13));
    }

    private static void promise15() {
        CandleStatute x = new CandleStatute();
        x.stub(3, 30, 2);
        x.stub(3, 10, 2);
        x.stub(4, 20, 2);
        x.stub(5, 20, 2);
        x.pool(0, 8);
        x.share();
        x.pool(1, 3);
        x.owe(0, 4, 6);
        x.owe(1, 5, 7);
        x.owe(2, 3, 40);
        x.owe(3, 3, 9);
        x.writ(3, 2, 4);
        x.heir(3, 1);
        int[] due = {1, 1, 8, 3, 52, 2, 1, 13};
        for (int what = 0; what < 8; what++) {
            Due.due("houseOf " + what, due[what], x.houseOf(3, what));
        }
        Due.due("what -1", BAD, x.houseOf(3, -1));
        Due.due("what 8", BAD, x.houseOf(3, 8));
        Due.due("no house", NONE, x.houseOf(6, 0));
        Due.due("NONE ahead of BAD", NONE, x.houseOf(-1, 8));
        x.end(3);
        int[] ended = {0, 1, 0, 0, 0, 0, 0, 0};
        for (int what = 0; what < 8; what++) {
            Due.due("ended " + what, ended[what], x.houseOf(3, what));
        }
    }

    private static void promise16() {
        CandleStatute x = new CandleStatute();
        Due.due("inherits", 1, x.inherits(0));
        Due.due("inherits", 0, x.inherits(5));
        Due.due("no house", NONE, x.inherits(6));
        Due.due("no house", NONE, x.inherits(-1));
        x.end(1);
        Due.due("inherits", 2, x.inherits(0));
        Due.due("ended", NOTHING, x.inherits(1));
        x.end(2);
        x.end(3);
        x.end(4);
        Due.due("inherits", 5, x.inherits(0));
        x.end(5);
        Due.due("last", NOTHING, x.inherits(0));
    }

    private static void promise17() {
        CandleStatute x = new CandleStatute();
        x.stub(0, 30, 1);
        Due.due("all are borne", 0, x.wouldMelt(0));
        Due.due("without stubs", 0, x.wouldMelt(3));
        x.stub(1, 29, 1);
        Due.due("one too heavy", 1, x.wouldMelt(0));
        x.burn(1, 1);
        Due.due("just borne", 0, x.wouldMelt(0));
        Due.due("asking ends nothing", 6, x.account(1));
        Due.due("no house", NONE, x.wouldMelt(6));
        Due.due("no house", NONE, x.wouldMelt(-1));
        x.end(0);
        Due.due("ended", NOTHING, x.wouldMelt(0));
        for (int house = 2; house < 6; house++) {
            x.end(house);
        }
        Due.due("last", NOTHING, x.wouldMelt(1));
    }

    private static void promises18And19() {
        CandleStatute x = new CandleStatute();
        x.stub(1, 12, 9);
        x.stub(2, 20, 1);
        x.stub(1, 1, 1);
        int[] due = {0, 15, 21, 0, 0, 0};
        for (int house = 0; house < 6; house++) {
            Due.due("weight", due[house], x.weight(house));
            Due.due("weightAgain", due[house], x.weightAgain(house));
        }
        Due.due("no house", NONE, x.weight(6));
        Due.due("no house", NONE, x.weight(-1));
        Due.due("no house", NONE, x.weightAgain(6));
        Due.due("no house", NONE, x.weightAgain(-1));
        x.end(1);
        Due.due("ended", 0, x.weight(1));
        Due.due("ended", 0, x.weightAgain(1));
        Due.due("heir", 36, x.weight(2));
        Due.due("heir", 36, x.weightAgain(2));
    }

    private static void promise20() {
        CandleStatute x = new CandleStatute();
        for (int place = 0; place < 6; place++) {
            Due.due("alike", place, x.ranked(place));
        }
        x.stub(4, 20, 1);
        x.pool(0, 5);
        x.share();
        x.stub(2, 20, 1);
        x.owe(1, 3, 9);
        x.owe(0, 5, 9);
        x.pool(1, 2);
        // claims 2, 9 and 9 for 2, 3 and 5; the store of 4 is 5
        int[] due = {3, 5, 2, 4, 0, 1};
        for (int place = 0; place < 6; place++) {
            Due.due("ranked " + place, due[place], x.ranked(place));
        }
        Due.due("no place", NONE, x.ranked(6));
        Due.due("no place", NONE, x.ranked(-1));
    }

    private static void promise20Ties() {
        CandleStatute x = new CandleStatute();
        x.stub(2, 20, 1);
        x.stub(4, 20, 1);
        x.pool(0, 3);
        x.pool(1, 4);
        x.share();
        x.stub(1, 20, 1);
        x.pool(2, 5);
        x.stub(3, 20, 1);
        x.pool(3, 5);
        x.owe(0, 4, 5);
        x.owe(1, 2, 5);
        // claims of 5 for 1 and 3 by wax, for 2 and 4 by light; stores of 3 for 2, of 4 for 4
        int[] due = {4, 2, 1, 3, 0, 5};
        for (int place = 0; place < 6; place++) {
            Due.due("ranked " + place, due[place], x.ranked(place));
        }
        x.burn(1, 1);
        Due.due("a claim of 4, and a store", 2, x.ranked(3));
        x.undo();
        x.mould(4, 1, 1);
        Due.due("a store of 3 for both", 2, x.ranked(0));
        x.mould(2, 1, 1);
        Due.due("a store of 2 and of 3", 4, x.ranked(0));
    }

    private static void promise20Ended() {
        CandleStatute x = new CandleStatute();
        x.stub(0, 20, 1);
        x.pool(0, 3);
        x.end(0);
        int[] due = {1, 0, 2, 3, 4, 5};
        for (int place = 0; place < 6; place++) {
            Due.due("ranked " + place, due[place], x.ranked(place));
        }
    }

    private static void promise21() {
        CandleStatute x = new CandleStatute();
        Due.due("none", NONE, x.brightest(0));
        x.stub(0, 6, 2);
        x.stub(1, 4, 3);
        x.stub(2, 12, 1);
        x.stub(3, 13, 1);
        x.stub(4, 3, 4);
        x.owe(0, 5, 3);
        x.owe(1, 5, 2);
        int[] due = {3, 2, 4, 1, 0};
        for (int place = 0; place < 5; place++) {
            Due.due("brightest " + place, due[place], x.brightest(place));
        }
        Due.due("no place", NONE, x.brightest(5));
        Due.due("no place", NONE, x.brightest(-1));
        Due.due("burning", 0, x.burn(3, 2));
        Due.due("less bright then", 3, x.brightest(4));
    }
}
