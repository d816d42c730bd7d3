/** Promises 1 to 6: a new object, stub, burn, owe, writ, stubOf. */
public final class StubsTest {
    private static final int NONE = CandleStatute.NONE;
    private static final int BAD = CandleStatute.BAD;
    private static final int REFUSED = CandleStatute.REFUSED;
    private static final int NOTHING = CandleStatute.NOTHING;

    public static void main(String[] args) {
        promise1();
        promise2();
        promise2Tray();
        promise2Room();
        twelveStubs();
        promise3();
        promise3BurnsDown();
        promise3Refused();
        promise4();
        promise4Refused();
        promise5();
        promise5Refused();
        promise6();
        Due.end("StubsTest");
    }

    private static void promise1() {
        CandleStatute x = new CandleStatute();
        int[] heirs = {1, 2, 3, 4, 5, 0};
        for (int house = 0; house < 6; house++) {
            Due.due("open", 1, x.houseOf(house, 0));
            Due.due("heir", heirs[house], x.houseOf(house, 1));
            for (int what = 2; what < 8; what++) {
                Due.due("houseOf " + what, 0, x.houseOf(house, what));
            }
        }
        for (int what = 0; what < 14; what++) {
            Due.due("account " + what, what == 1 ? 6 : 0, x.account(what));
        }
        Due.due("character", NONE, x.character(0));
        Due.due("reason", NOTHING, x.reason(0, false));
        Due.due("undo", NOTHING, x.undo());
        Due.due("restore", NOTHING, x.restore());
        Due.due("isBalanced", 1, x.isBalanced());
    }

    private static void promise2() {
        CandleStatute x = new CandleStatute();
        Due.due("stub", 0, x.stub(0, 30, 9));
        Due.due("stub", 1, x.stub(5, 1, 1));
        Due.due("house", 5, x.stubOf(1, 0));
        Due.due("wax", 30, x.stubOf(0, 1));
        Due.due("wick", 9, x.stubOf(0, 2));
        Due.due("brought", 31, x.account(6));
        Due.due("no house below", NONE, x.stub(-1, 5, 5));
        Due.due("no house above", NONE, x.stub(6, 5, 5));
        Due.due("NONE ahead of BAD", NONE, x.stub(6, 0, 0));
        Due.due("wax 0", BAD, x.stub(0, 0, 5));
        Due.due("wax 31", BAD, x.stub(0, 31, 5));
        Due.due("wick 0", BAD, x.stub(0, 5, 0));
        Due.due("wick 10", BAD, x.stub(0, 5, 10));
        Due.due("far out", NONE, x.stub(Integer.MIN_VALUE, 5, 5));
        Due.due("far out", BAD, x.stub(0, Integer.MAX_VALUE, 5));
        Due.due("unchanged", 2, x.account(0));
        Due.due("unchanged", 2, x.account(13));
        x.end(0);
        Due.due("BAD ahead of reasons", BAD, x.stub(0, 0, 5));
        Due.dueRefused(x, "ended", x.stub(0, 30, 9), "2:0");
    }

    private static void promise2Tray() {
        CandleStatute x = new CandleStatute();
        x.stub(4, 29, 1);
        Due.dueRefused(x, "31 more", x.stub(4, 30, 1), "3:61");
        Due.due("30 more", 1, x.stub(4, 29, 1));
        Due.dueRefused(x, "full tray", x.stub(4, 1, 1), "3:62");
        Due.due("weight", 60, x.weight(4));
    }

    private static void promise2Room() {
        CandleStatute x = new CandleStatute();
        for (int i = 0; i < 12; i++) {
            Due.due("stub", i, x.stub(i < 2 ? 0 : 1 + i % 5, i < 2 ? 29 : 1, 1));
        }
        Due.dueRefused(x, "thirteenth", x.stub(1, 1, 1), "1:12");
        Due.dueRefused(x, "tray ahead of room", x.stub(0, 3, 1), "3:64");
        x.end(5);
        Due.dueRefused(x, "ended ahead of tray", x.stub(5, 1, 1), "2:5");
    }

    private static void twelveStubs() {
        CandleStatute x = new CandleStatute();
        for (int i = 0; i < 12; i++) {
            x.stub(i % 6, 12 - i, 1);
        }
        for (int i = 0; i < 12; i++) {
            Due.due("owe", 1 + i / 6, x.owe(i, (i + 1) % 6, 1));
            Due.due("writ", i + 1, x.writ((i + 2) % 6, i, 1 + i));
        }
        for (int i = 0; i < 12; i++) {
            Due.due("brightest", i, x.brightest(i));
            Due.due("a stub's wax", 12 - i, x.stubOf(i, 1));
        }
        for (int house = 0; house < 6; house++) {
            int[] due = {1, (house + 1) % 6, 0, 0, 2, 2, 2, 2};
            for (int what = 0; what < 8; what++) {
                Due.due("houseOf " + what, due[what], x.houseOf(house, what));
            }
            Due.due("weight", 20 - 2 * house, x.weight(house));
            Due.due("weightAgain", 20 - 2 * house, x.weightAgain(house));
            Due.due("wouldMelt", 0, x.wouldMelt(house));
        }
        Due.due("isBalanced", 1, x.isBalanced());
        Due.due("pass", 3, x.pass(3));
        Due.due("end", 1, x.end(0));
        Due.due("stubs", 12, x.account(0));
        Due.due("no thirteenth place", NONE, x.brightest(12));
    }

    private static void promise3() {
        CandleStatute x = new CandleStatute();
        x.stub(0, 30, 9);
        x.stub(1, 20, 4);
        x.owe(1, 0, 10);
        Due.due("owes nothing", 0, x.burn(0, 2));
        Due.due("gave", 18, x.stubOf(0, 7));
        Due.due("paid in part", 8, x.burn(1, 2));
        Due.due("still owed", 2, x.stubOf(1, 4));
        Due.due("still owed to", 0, x.stubOf(1, 3));
        Due.due("paid as far as owed", 2, x.burn(1, 3));
        Due.due("owed no more", 0, x.stubOf(1, 4));
        Due.due("owed to none", NOTHING, x.stubOf(1, 3));
        Due.due("nothing more", 0, x.burn(1, 1));
        Due.due("wax", 14, x.stubOf(1, 1));
        Due.due("burnt", 8, x.account(7));
        Due.due("given", 42, x.account(8));
        Due.due("paid", 10, x.account(9));
        Due.due("no hours", 0, x.account(11));
        Due.due("no stub", NONE, x.burn(2, 1));
        Due.due("no stub", NONE, x.burn(-1, 1));
        Due.due("NONE ahead of BAD", NONE, x.burn(2, 0));
        Due.due("hours 0", BAD, x.burn(0, 0));
        Due.due("hours 31", BAD, x.burn(0, 31));
        Due.due("changes", 7, x.account(13));
    }

    private static void promise3BurnsDown() {
        CandleStatute x = new CandleStatute();
        x.stub(0, 30, 1);
        x.stub(1, 5, 2);
        x.stub(2, 7, 3);
        x.owe(0, 3, 40);
        x.owe(2, 1, 90);
        x.writ(5, 2, 9);
        Due.due("burns down", 30, x.burn(0, 30));
        Due.due("gone", 2, x.account(0));
        Due.due("numbers", 1, x.stubOf(0, 0));
        Due.due("its wax goes along", 7, x.stubOf(1, 1));
        Due.due("its wick goes along", 3, x.stubOf(1, 2));
        Due.due("its creditor goes along", 1, x.stubOf(1, 3));
        Due.due("its debt goes along", 90, x.stubOf(1, 4));
        Due.due("its writ goes along", 9, x.stubOf(1, 5));
        Due.due("its snuffer goes along", 5, x.stubOf(1, 6));
        Due.due("forgotten", 90, x.account(10));
        Due.due("forgotten", 0, x.houseOf(3, 4));
        Due.due("paid", 30, x.account(9));
        Due.due("burns down", 0, x.burn(0, 5));
        Due.due("gone", 2, x.stubOf(0, 0));
    }

    private static void promise3Refused() {
        CandleStatute x = new CandleStatute();
        x.stub(0, 4, 1);
        x.stub(1, 4, 1);
        x.writ(0, 1, 3);
        Due.dueRefused(x, "too little", x.burn(0, 5), "4:0 6:4");
        Due.dueRefused(x, "snuffed ahead", x.burn(1, 5), "4:1 5:3");
        x.pass(2);
        Due.dueRefused(x, "snuffed", x.burn(1, 1), "4:1 5:1");
        x.pass(1);
        Due.due("no more", 0, x.burn(1, 4));
        Due.due("unchanged", 4, x.stubOf(0, 1));
    }

    private static void promise4() {
        CandleStatute x = new CandleStatute();
        x.stub(0, 10, 2);
        x.stub(1, 10, 2);
        Due.due("owe", 90, x.owe(0, 2, 90));
        Due.due("all that is owed to it", 91, x.owe(1, 2, 1));
        Due.due("no stub", NONE, x.owe(2, 3, 5));
        Due.due("no stub", NONE, x.owe(-1, 3, 5));
        Due.due("no house", NONE, x.owe(0, 6, 5));
        Due.due("no house", NONE, x.owe(0, -1, 5));
        Due.due("NONE ahead of BAD", NONE, x.owe(0, 6, 0));
        Due.due("light 0", BAD, x.owe(0, 3, 0));
        Due.due("light 91", BAD, x.owe(0, 3, 91));
        Due.due("owed", 91, x.account(10));
        Due.due("owed by a house", 90, x.houseOf(0, 7));
    }

    private static void promise4Refused() {
        CandleStatute x = new CandleStatute();
        x.stub(1, 10, 2);
        x.end(2);
        Due.dueRefused(x, "ended", x.owe(0, 2, 5), "2:2");
        Due.dueRefused(x, "own", x.owe(0, 1, 5), "8:1");
        x.owe(0, 3, 5);
        Due.dueRefused(x, "owes already", x.owe(0, 4, 5), "7:3");
        Due.dueRefused(x, "also for the same", x.owe(0, 3, 5), "7:3");
        Due.dueRefused(x, "own ahead of owing", x.owe(0, 1, 5), "8:1");
        Due.dueRefused(x, "ended ahead of owing", x.owe(0, 2, 5), "2:2");
        Due.due("owed", 5, x.stubOf(0, 4));
        x.burn(0, 3);
        Due.due("paid, so again", 7, x.owe(0, 4, 7));
    }

    private static void promise5() {
        CandleStatute x = new CandleStatute();
        x.stub(0, 10, 2);
        x.stub(1, 10, 2);
        x.stub(2, 10, 2);
        Due.due("writ", 1, x.writ(1, 0, 24));
        Due.due("writ", 2, x.writ(0, 1, 1));
        Due.due("writs of all houses", 3, x.writ(0, 2, 5));
        Due.due("no house", NONE, x.writ(6, 0, 5));
        Due.due("no house", NONE, x.writ(-1, 0, 5));
        Due.due("no stub", NONE, x.writ(0, 3, 5));
        Due.due("no stub", NONE, x.writ(0, -1, 5));
        Due.due("NONE ahead of BAD", NONE, x.writ(0, 3, 0));
        Due.due("hours 0", BAD, x.writ(3, 0, 0));
        Due.due("hours 25", BAD, x.writ(3, 0, 25));
        Due.due("its writs", 2, x.houseOf(0, 6));
    }

    private static void promise5Refused() {
        CandleStatute x = new CandleStatute();
        for (int i = 0; i < 4; i++) {
            x.stub(i, 10, 2);
        }
        x.end(5);
        Due.dueRefused(x, "ended", x.writ(5, 0, 5), "2:5");
        Due.dueRefused(x, "own", x.writ(0, 0, 5), "8:0");
        x.writ(0, 1, 7);
        Due.dueRefused(x, "snuffed already", x.writ(2, 1, 5), "9:7");
        Due.dueRefused(x, "own ahead of snuffed", x.writ(1, 1, 5), "8:1");
        x.writ(0, 2, 8);
        Due.dueRefused(x, "two writs", x.writ(0, 3, 5), "1:2");
        Due.dueRefused(x, "snuffed ahead of two", x.writ(0, 1, 5), "9:7");
        x.pool(1, 10);
        Due.due("a gone one leaves room", 2, x.writ(0, 2, 5));
    }

    private static void promise6() {
        CandleStatute x = new CandleStatute();
        x.stub(3, 12, 4);
        int[] fresh = {3, 12, 4, NOTHING, 0, 0, NOTHING, 0};
        for (int what = 0; what < 8; what++) {
            Due.due("fresh " + what, fresh[what], x.stubOf(0, what));
        }
        x.burn(0, 2);
        x.owe(0, 0, 30);
        x.writ(5, 0, 6);
        int[] later = {3, 10, 4, 0, 30, 6, 5, 8};
        for (int what = 0; what < 8; what++) {
            Due.due("later " + what, later[what], x.stubOf(0, what));
        }
        Due.due("what -1", BAD, x.stubOf(0, -1));
        Due.due("what 8", BAD, x.stubOf(0, 8));
        Due.due("no stub", NONE, x.stubOf(1, 0));
        Due.due("NONE ahead of BAD", NONE, x.stubOf(-1, 8));
        Due.due("gone", 0, x.pool(0, 10) - 10);
        Due.due("a new one has given nothing", 0, x.stub(3, 12, 4));
        Due.due("a new one has given nothing", 0, x.stubOf(0, 7));
        Due.due("a new one owes nothing", NOTHING, x.stubOf(0, 3));
        Due.due("a new one is not snuffed", NOTHING, x.stubOf(0, 6));
    }
}
