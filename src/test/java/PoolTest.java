/** Promises 7 to 11: pool, share, part, partAgain, mould. */
public final class PoolTest {
    private static final int NONE = CandleStatute.NONE;
    private static final int BAD = CandleStatute.BAD;
    private static final int NOTHING = CandleStatute.NOTHING;

    public static void main(String[] args) {
        promise7();
        promise8();
        promise8SmallestPool();
        promise8Refused();
        promises9And10Ties();
        promises9And10Light();
        promises9And10Remainders();
        promises9And10WholeDivision();
        promises9And10Nothing();
        promise11();
        promise11Refused();
        Due.end("PoolTest");
    }

    private static void promise7() {
        CandleStatute x = new CandleStatute();
        x.stub(0, 30, 2);
        x.stub(1, 10, 2);
        x.owe(0, 1, 5);
        x.writ(2, 0, 5);
        Due.due("pool", 4, x.pool(0, 4));
        Due.due("pool", 10, x.pool(1, 6));
        Due.due("pooled", 4, x.houseOf(0, 3));
        Due.due("pooled", 6, x.houseOf(1, 3));
        Due.due("in the pool", 10, x.account(5));
        Due.due("nothing burnt", 0, x.account(7));
        Due.dueRefused(x, "too little", x.pool(1, 5), "10:4");
        Due.due("no stub", NONE, x.pool(2, 1));
        Due.due("no stub", NONE, x.pool(-1, 1));
        Due.due("NONE ahead of BAD", NONE, x.pool(2, 0));
        Due.due("wax 0", BAD, x.pool(1, 0));
        Due.due("wax 31", BAD, x.pool(1, 31));
        Due.due("all of it", 36, x.pool(0, 26));
        Due.due("gone", 1, x.account(0));
        Due.due("numbers", 1, x.stubOf(0, 0));
        Due.due("owed no more", 0, x.account(10));
        Due.due("no writ", 0, x.account(2));
        Due.due("no writ", 0, x.houseOf(2, 6));
    }

    private static void promise8() {
        CandleStatute x = new CandleStatute();
        x.stub(0, 30, 1);
        x.stub(1, 30, 1);
        x.stub(2, 30, 1);
        x.owe(0, 3, 2);
        x.owe(1, 0, 5);
        x.pool(0, 5);
        x.pool(1, 2);
        x.pool(2, 1);
        // claims 10, 2, 1, 2 of 15; 8 of wax: 5 5/15, 1 1/15, 8/15, 1 1/15
        Due.due("claim", 10, x.houseOf(0, 4));
        Due.due("share", 4, x.share());
        int[] stores = {5, 1, 1, 1, 0, 0};
        for (int house = 0; house < 6; house++) {
            Due.due("store " + house, stores[house], x.houseOf(house, 2));
            Due.due("pooled " + house, 0, x.houseOf(house, 3));
        }
        Due.due("the pool is empty", 0, x.account(5));
        Due.due("stores", 8, x.account(4));
        Due.due("owed as before", 7, x.account(10));
        Due.due("claim", 5, x.houseOf(0, 4));
        x.pool(0, 1);
        Due.due("one piece to the greatest", 1, x.share());
        Due.due("store", 6, x.houseOf(0, 2));
    }

    private static void promise8SmallestPool() {
        CandleStatute x = new CandleStatute();
        x.stub(4, 1, 1);
        x.pool(0, 1);
        Due.due("claim", 1, x.houseOf(4, 4));
        Due.due("part", 1, x.part(4));
        Due.due("partAgain", 1, x.partAgain(4));
        Due.due("isBalanced", 1, x.isBalanced());
        Due.due("share", 1, x.share());
        Due.due("store", 1, x.houseOf(4, 2));
        Due.due("mould", 0, x.mould(4, 1, 1));
    }

    private static void promise8Refused() {
        CandleStatute x = new CandleStatute();
        Due.dueRefused(x, "empty", x.share(), "11:0");
        x.stub(0, 30, 1);
        x.stub(1, 30, 1);
        x.owe(0, 1, 5);
        Due.dueRefused(x, "empty", x.share(), "11:2");
        Due.due("claims without wax", 0, x.part(1));
        Due.due("changes", 3, x.account(13));
    }

    private static void promises9And10Ties() {
        CandleStatute x = new CandleStatute();
        for (int house = 5; house >= 0; house--) {
            x.stub(house, 10, 1);
        }
        x.pool(0, 1);
        x.pool(1, 1);
        x.pool(2, 1);
        x.owe(0, 1, 1);
        x.owe(1, 2, 1);
        x.owe(2, 0, 1);
        // stubs 0, 1, 2 are of houses 5, 4, 3; each of 0 to 5 has the claim 1, for 3 of wax
        int[] due = {1, 1, 1, 0, 0, 0};
        int together = 0;
        for (int house = 0; house < 6; house++) {
            Due.due("claim", 1, x.houseOf(house, 4));
            Due.due("part " + house, due[house], x.part(house));
            Due.due("partAgain " + house, due[house], x.partAgain(house));
            together += x.part(house);
        }
        Due.due("whole", 3, together);
        Due.due("asking shares nothing", 3, x.account(5));
        Due.due("share", 3, x.share());
    }

    private static void promises9And10Light() {
        CandleStatute x = new CandleStatute();
        x.stub(0, 30, 1);
        x.stub(0, 28, 1);
        x.stub(1, 30, 1);
        x.owe(0, 4, 90);
        x.owe(1, 4, 7);
        x.owe(2, 5, 3);
        x.pool(2, 17);
        // claims 17 for 1, 97 for 4, 3 for 5, of 117; 17 of wax: 2 55/117, 14 11/117, 51/117
        int[] due = {0, 3, 0, 0, 14, 0};
        for (int house = 0; house < 6; house++) {
            Due.due("part " + house, due[house], x.part(house));
            Due.due("partAgain " + house, due[house], x.partAgain(house));
        }
        Due.due("share", 2, x.share());
    }

    private static void promises9And10Remainders() {
        CandleStatute x = new CandleStatute();
        x.stub(0, 10, 1);
        x.owe(0, 5, 1);
        x.pool(0, 1);
        // claims 1 and 1, for 1 of wax: the remainder is 1 for both
        Due.due("the lowest", 1, x.part(0));
        Due.due("the lowest", 1, x.partAgain(0));
        Due.due("the other", 0, x.part(5));
        Due.due("the other", 0, x.partAgain(5));
        x.pool(0, 1);
        // claims 2 and 1, for 2 of wax: 1 1/3 and 2/3
        Due.due("the greatest remainder", 1, x.part(0));
        Due.due("the greatest remainder", 1, x.part(5));
        Due.due("the greatest remainder", 1, x.partAgain(5));
        x.pool(0, 1);
        // claims 3 and 1, for 3 of wax: 2 1/4 and 3/4
        Due.due("the greatest remainder", 2, x.part(0));
        Due.due("the greatest remainder", 1, x.part(5));
        x.pool(0, 7);
        Due.due("a claim of one that is gone", 0, x.part(5));
        Due.due("all of it", 10, x.part(0));
        Due.due("all of it", 10, x.partAgain(0));
        Due.due("share", 1, x.share());
    }

    private static void promises9And10WholeDivision() {
        CandleStatute x = new CandleStatute();
        x.stub(0, 20, 1);
        x.stub(0, 20, 1);
        x.owe(0, 1, 1);
        x.owe(1, 2, 7);
        x.pool(0, 4);
        // claims 4, 1 and 7 of 12, for 4 of wax: 1 4/12, 4/12, 2 4/12; 11 or 13 would share otherwise
        int[] due = {2, 0, 2, 0, 0, 0};
        for (int house = 0; house < 6; house++) {
            Due.due("part " + house, due[house], x.part(house));
            Due.due("partAgain " + house, due[house], x.partAgain(house));
        }
    }

    private static void promises9And10Nothing() {
        CandleStatute x = new CandleStatute();
        Due.due("no house", NONE, x.part(6));
        Due.due("no house", NONE, x.part(-1));
        Due.due("no house", NONE, x.partAgain(6));
        Due.due("no house", NONE, x.partAgain(-1));
        Due.due("nothing", 0, x.part(0));
        Due.due("nothing", 0, x.partAgain(0));
        x.stub(0, 10, 1);
        x.pool(0, 7);
        x.end(0);
        Due.due("an ended one", 0, x.part(0));
        Due.due("an ended one", 0, x.partAgain(0));
        Due.due("its heir", 7, x.part(1));
        Due.due("its heir", 7, x.partAgain(1));
    }

    private static void promise11() {
        CandleStatute x = new CandleStatute();
        x.stub(2, 30, 1);
        x.pool(0, 20);
        x.share();
        Due.due("mould", 1, x.mould(2, 20, 9));
        Due.due("nothing for the wick", 0, x.houseOf(2, 2));
        Due.due("house", 2, x.stubOf(1, 0));
        Due.due("wax", 20, x.stubOf(1, 1));
        Due.due("wick", 9, x.stubOf(1, 2));
        Due.due("not brought", 30, x.account(6));
        Due.due("isBalanced", 1, x.isBalanced());
        Due.due("no house", NONE, x.mould(6, 1, 1));
        Due.due("no house", NONE, x.mould(-1, 1, 1));
        Due.due("NONE ahead of BAD", NONE, x.mould(6, 0, 1));
        Due.due("wax 0", BAD, x.mould(2, 0, 1));
        Due.due("wax 31", BAD, x.mould(2, 31, 1));
        Due.due("wick 0", BAD, x.mould(2, 1, 0));
        Due.due("wick 10", BAD, x.mould(2, 1, 10));
        Due.due("owes nothing", NOTHING, x.stubOf(1, 3));
    }

    private static void promise11Refused() {
        CandleStatute x = new CandleStatute();
        x.stub(0, 30, 1);
        x.pool(0, 25);
        x.share();
        x.end(5);
        Due.dueRefused(x, "ended", x.mould(5, 1, 1), "2:5");
        Due.dueRefused(x, "store", x.mould(0, 26, 1), "13:25");
        Due.dueRefused(x, "store of another", x.mould(1, 1, 1), "13:0");
        x.stub(0, 29, 1);
        x.stub(0, 20, 1);
        Due.dueRefused(x, "tray", x.mould(0, 3, 1), "3:61");
        Due.dueRefused(x, "store ahead of tray", x.mould(0, 30, 1), "13:25");
        for (int i = 3; i < 12; i++) {
            Due.due("stub", i, x.stub(1 + i % 4, 1, 1));
        }
        Due.dueRefused(x, "room", x.mould(0, 2, 1), "1:12");
        Due.dueRefused(x, "tray ahead of room", x.mould(0, 3, 1), "3:61");
        Due.due("unchanged", 25, x.houseOf(0, 2));
    }
}
