/** Runs of calls with which several tests begin. */
final class Scenes {
    private Scenes() {
    }

    /** 30 in the stores of 0 and 5, and no stub. */
    static void fillStores(CandleStatute x) {
        for (int house = 0; house < 6; house += 5) {
            x.stub(house, 30, 1);
            x.pool(0, 30);
            x.share();
        }
    }

    /** Two stubs of each house, each with 1 of wax, and 2 in the store of 0. */
    static void bringTwelve(CandleStatute x) {
        x.stub(0, 2, 1);
        x.pool(0, 2);
        x.share();
        for (int i = 0; i < 12; i++) {
            x.stub(i % 6, 1, 1);
        }
    }
}
