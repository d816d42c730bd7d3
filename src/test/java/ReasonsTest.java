/** "Terms", the paragraph Reasons: each with its detail and what stands behind it, and in its method's order. */
public final class ReasonsTest {
    private static final int BAD = CandleStatute.BAD;
    private static final int NOTHING = CandleStatute.NOTHING;

    public static void main(String[] args) {
        reason1();
        reason2();
        reason3();
        reasons4And5();
        reasons4And6();
        reason7();
        reason8();
        reason9();
        reason10();
        reason11();
        reason13();
        reason14();
        reason15();
        reason16();
        stubInItsOrder();
        burnInItsOrder();
        oweInItsOrder();
        writInItsOrder();
        mouldInItsOrder();
        endInItsOrder();
        depths();
        theLatestOne();
        keptByOtherCodes();
        Due.end("ReasonsTest");
    }

    private static void reason1() {
        CandleStatute x = Due.after(Scenes::bringTwelve);
        dueBoth(x, "stub", x.stub(0, 1, 1), "s0:1/1", "1:12");
        dueBoth(x, "mould", x.mould(0, 1, 1), "m0:1/1", "1:12");
        x.writ(0, 1, 9);
        x.writ(0, 2, 9);
        dueBoth(x, "writ", x.writ(0, 3, 9), "w0!3*9", "1:2");
    }

    private static void reason2() {
        for (int house = 0; house < 6; house += 5) {
            CandleStatute x = new CandleStatute();
            x.stub(3, 9, 1);
            x.end(house);
            dueBoth(x, "stub", x.stub(house, 1, 1), "s" + house + ":1/1", "2:" + house);
            dueBoth(x, "owe", x.owe(0, house, 1), "o0>" + house + "=1", "2:" + house);
            dueBoth(x, "writ", x.writ(house, 0, 1), "w" + house + "!0*1", "2:" + house);
            dueBoth(x, "mould", x.mould(house, 1, 1), "m" + house + ":1/1", "2:" + house);
            dueBoth(x, "end", x.end(house), "e" + house, "2:" + house);
        }
    }

    private static void reason3() {
        CandleStatute x = new CandleStatute();
        x.stub(4, 30, 1);
        x.pool(0, 30);
        x.share();
        x.stub(4, 30, 9);
        dueBoth(x, "stub", x.stub(4, 29, 9), "s4:29/9", "3:61");
        dueBoth(x, "stub", x.stub(4, 30, 1), "s4:30/1", "3:62");
        dueBoth(x, "mould", x.mould(4, 29, 9), "m4:29/9", "3:61");
        dueBoth(x, "mould", x.mould(4, 30, 1), "m4:30/1", "3:62");
        x.stub(4, 28, 1);
        dueBoth(x, "stub", x.stub(4, 30, 1), "s4:30/1", "3:91");
    }

    private static void reasons4And5() {
        CandleStatute x = new CandleStatute();
        x.stub(0, 9, 1);
        x.stub(1, 9, 1);
        x.writ(0, 1, 24);
        dueBoth(x, "burn", x.burn(1, 1), "b1*1", "4:1 5:24");
        x.pass(23);
        dueBoth(x, "burn", x.burn(1, 9), "b1*9", "4:1 5:1");
    }

    private static void reasons4And6() {
        CandleStatute x = new CandleStatute();
        x.stub(0, 9, 1);
        x.stub(1, 29, 1);
        x.stub(2, 1, 1);
        dueBoth(x, "burn", x.burn(0, 10), "b0*10", "4:0 6:9");
        dueBoth(x, "burn", x.burn(1, 30), "b1*30", "4:1 6:29");
        dueBoth(x, "burn", x.burn(2, 2), "b2*2", "4:2 6:1");
    }

    private static void reason7() {
        CandleStatute x = new CandleStatute();
        x.stub(1, 9, 1);
        x.owe(0, 0, 9);
        dueBoth(x, "to another", x.owe(0, 2, 1), "o0>2=1", "7:0");
        dueBoth(x, "to the same", x.owe(0, 0, 1), "o0>0=1", "7:0");
        x.burn(0, 8);
        dueBoth(x, "owing 1", x.owe(0, 5, 1), "o0>5=1", "7:0");
        x.end(0);
        Due.due("to its own house then, so to none", 1, x.owe(0, 5, 1));
        dueBoth(x, "to another", x.owe(0, 2, 1), "o0>2=1", "7:5");
    }

    private static void reason8() {
        for (int house = 0; house < 6; house += 5) {
            CandleStatute x = new CandleStatute();
            x.stub(3, 9, 1);
            x.stub(house, 9, 1);
            dueBoth(x, "owe", x.owe(1, house, 1), "o1>" + house + "=1", "8:" + house);
            dueBoth(x, "writ", x.writ(house, 1, 1), "w" + house + "!1*1", "8:" + house);
        }
    }

    private static void reason9() {
        CandleStatute x = new CandleStatute();
        x.stub(0, 9, 1);
        x.writ(1, 0, 24);
        dueBoth(x, "by another", x.writ(2, 0, 5), "w2!0*5", "9:24");
        dueBoth(x, "by the same", x.writ(1, 0, 5), "w1!0*5", "9:24");
        x.pass(23);
        dueBoth(x, "an hour left", x.writ(2, 0, 5), "w2!0*5", "9:1");
    }

    private static void reason10() {
        CandleStatute x = new CandleStatute();
        x.stub(0, 29, 1);
        x.stub(1, 1, 1);
        dueBoth(x, "pool", x.pool(0, 30), "p0+30", "10:29");
        dueBoth(x, "pool", x.pool(1, 2), "p1+2", "10:1");
    }

    private static void reason11() {
        CandleStatute x = new CandleStatute();
        dueBoth(x, "without stubs", x.share(), "d", "11:0");
        x.stub(0, 9, 1);
        x.owe(0, 1, 9);
        dueBoth(x, "with a claim", x.share(), "d", "11:1");
        x.pool(0, 9);
        Due.due("share", 1, x.share());
        dueBoth(x, "shared out", x.share(), "d", "11:0");
        CandleStatute y = Due.after(Scenes::bringTwelve);
        dueBoth(y, "with twelve", y.share(), "d", "11:12");
    }

    private static void reason13() {
        CandleStatute x = new CandleStatute();
        x.stub(0, 30, 1);
        x.pool(0, 29);
        x.share();
        dueBoth(x, "mould", x.mould(0, 30, 1), "m0:30/1", "13:29");
        dueBoth(x, "mould", x.mould(1, 1, 9), "m1:1/9", "13:0");
    }

    private static void reason14() {
        CandleStatute x = new CandleStatute();
        dueBoth(x, "as at first", x.heir(5, 0), "h5>0", "14:0");
        dueBoth(x, "as at first", x.heir(4, 5), "h4>5", "14:5");
        x.heir(5, 5);
        dueBoth(x, "as told", x.heir(5, 5), "h5>5", "14:5");
        x.end(5);
        dueBoth(x, "of one that has ended", x.heir(5, 5), "h5>5", "14:5");
        dueBoth(x, "one that has ended", x.heir(4, 5), "h4>5", "14:5");
    }

    private static void reason15() {
        for (int last = 0; last < 6; last++) {
            CandleStatute x = new CandleStatute();
            for (int i = 1; i < 6; i++) {
                x.end((last + i) % 6);
            }
            dueBoth(x, "end", x.end(last), "e" + last, "15:" + last);
        }
    }

    /** The number of the order, what stands behind it, and what stands behind that. */
    private static void reason16() {
        CandleStatute x = new CandleStatute();
        x.stub(0, 9, 1);
        Due.dueRefused(x, "one behind", Due.runText(x, "t1;d"), "16:1 11:1");
        Due.dueRefused(x, "two behind", Due.runText(x, "t1;t1;b0*10"), "16:2 4:0 6:9");
        Due.dueRefused(x, "none behind NONE", Due.runText(x, "b1*1"), "16:0");
        Due.dueRefused(x, "none behind BAD", Due.runText(x, "t1;t25"), "16:1");
        Due.dueRefused(x, "two behind", Due.runText(x, "w1!0*7;b0*10"), "16:1 4:0 5:7");
        Due.dueRefused(x, "one behind, and no other", Due.runText(x, "h0>1"), "16:0 14:1");
        Due.due("none", NOTHING, x.reason(2, false));
        Due.due("none", NOTHING, x.reason(2, true));
    }

    /** The answer of a call, and that of the same as an order, which comes behind 16. */
    private static void dueBoth(CandleStatute x, String call, int answer, String order, String reasons) {
        Due.dueRefused(x, call, answer, reasons);
        int stubs = x.account(0);
        Due.dueRefused(x, call + " as an order", Due.runText(x, order), "16:0 " + reasons);
        Due.due("stubs", stubs, x.account(0));
    }

    private static void stubInItsOrder() {
        CandleStatute x = Due.after(Scenes::bringTwelve);
        x.burn(0, 1);
        x.burn(5, 1);
        x.stub(0, 30, 1);
        x.stub(0, 25, 1);
        Due.due("stubs", 12, x.account(0));
        Due.due("weight", 57, x.weight(0));
        Due.dueRefused(x, "3 ahead of 1", x.stub(0, 3, 1), "3:61");
        Due.dueRefused(x, "1", x.stub(0, 2, 1), "1:12");
        x.end(5);
        Due.dueRefused(x, "2 ahead of 1", x.stub(5, 1, 1), "2:5");
    }

    private static void burnInItsOrder() {
        CandleStatute x = new CandleStatute();
        x.stub(0, 9, 1);
        x.writ(1, 0, 2);
        Due.dueRefused(x, "5 ahead of 6", x.burn(0, 10), "4:0 5:2");
        x.pass(2);
        Due.dueRefused(x, "6", x.burn(0, 10), "4:0 6:9");
    }

    private static void oweInItsOrder() {
        CandleStatute x = new CandleStatute();
        x.stub(0, 9, 1);
        x.owe(0, 1, 9);
        x.end(2);
        Due.dueRefused(x, "2 ahead of 7", x.owe(0, 2, 1), "2:2");
        Due.dueRefused(x, "8 ahead of 7", x.owe(0, 0, 1), "8:0");
        Due.dueRefused(x, "7", x.owe(0, 3, 1), "7:1");
    }

    private static void writInItsOrder() {
        CandleStatute x = new CandleStatute();
        x.stub(0, 9, 1);
        x.stub(1, 9, 1);
        x.stub(2, 9, 1);
        x.stub(3, 9, 1);
        x.writ(0, 1, 7);
        x.writ(0, 2, 8);
        x.writ(1, 0, 6);
        x.end(5);
        Due.dueRefused(x, "2 ahead of 9", x.writ(5, 1, 1), "2:5");
        Due.dueRefused(x, "8 ahead of 9 and 1", x.writ(0, 0, 1), "8:0");
        Due.dueRefused(x, "8 ahead of 9", x.writ(2, 2, 1), "8:2");
        Due.dueRefused(x, "9 ahead of 1", x.writ(0, 2, 1), "9:8");
        Due.dueRefused(x, "1", x.writ(0, 3, 1), "1:2");
        Due.dueRefused(x, "9", x.writ(3, 0, 1), "9:6");
    }

    private static void mouldInItsOrder() {
        CandleStatute x = new CandleStatute();
        x.stub(0, 30, 1);
        x.pool(0, 9);
        x.share();
        x.stub(0, 30, 1);
        x.end(5);
        Due.due("weight", 53, x.weight(0));
        Due.dueRefused(x, "2 ahead of 13", x.mould(5, 30, 1), "2:5");
        Due.dueRefused(x, "13 ahead of 3", x.mould(0, 10, 1), "13:9");
        Due.dueRefused(x, "3", x.mould(0, 9, 1), "3:63");
        for (int i = 2; i < 12; i++) {
            x.stub(1 + i % 4, 1, 1);
        }
        Due.dueRefused(x, "2 ahead of 13 and 1", x.mould(5, 1, 1), "2:5");
        Due.dueRefused(x, "13 ahead of 3 and 1", x.mould(0, 10, 1), "13:9");
        Due.dueRefused(x, "13 ahead of 1", x.mould(1, 1, 1), "13:0");
        Due.dueRefused(x, "3 ahead of 1", x.mould(0, 7, 1), "3:61");
        Due.dueRefused(x, "1", x.mould(0, 6, 1), "1:12");
    }

    private static void endInItsOrder() {
        CandleStatute x = new CandleStatute();
        for (int house = 1; house < 6; house++) {
            x.end(house);
        }
        Due.dueRefused(x, "2 ahead of 15", x.end(3), "2:3");
        Due.dueRefused(x, "15", x.end(0), "15:0");
    }

    private static void depths() {
        CandleStatute x = new CandleStatute();
        int[] wrong = {Integer.MIN_VALUE, -2, -1, 3, 4, Integer.MAX_VALUE};
        for (int depth : wrong) {
            Due.due("no such depth, ahead of NOTHING", BAD, x.reason(depth, false));
            Due.due("no such depth, ahead of NOTHING", BAD, x.reason(depth, true));
        }
        for (int depth = 0; depth < 3; depth++) {
            Due.due("nothing was refused", NOTHING, x.reason(depth, false));
            Due.due("nothing was refused", NOTHING, x.reason(depth, true));
        }
        Due.runText(x, "s0:9/1;b0*10");
        int[] codes = {16, 4, 6};
        int[] details = {1, 0, 9};
        for (int depth = 0; depth < 3; depth++) {
            Due.due("reason " + depth, codes[depth], x.reason(depth, false));
            Due.due("detail " + depth, details[depth], x.reason(depth, true));
        }
        for (int depth : wrong) {
            Due.due("no such depth", BAD, x.reason(depth, false));
        }
    }

    private static void theLatestOne() {
        CandleStatute x = new CandleStatute();
        x.stub(0, 9, 1);
        Due.dueRefused(x, "three", Due.runText(x, "b0*10"), "16:0 4:0 6:9");
        Due.dueRefused(x, "two", x.burn(0, 11), "4:0 6:9");
        Due.dueRefused(x, "one", x.share(), "11:1");
        Due.dueRefused(x, "two", Due.runText(x, "d"), "16:0 11:1");
        Due.dueRefused(x, "one", Due.runText(x, "t0"), "16:0");
        Due.dueRefused(x, "one", x.heir(0, 1), "14:1");
    }

    private static void keptByOtherCodes() {
        CandleStatute x = new CandleStatute();
        x.stub(0, 9, 1);
        x.burn(0, 10);
        x.burn(1, 1);
        x.burn(0, 31);
        x.append(31);
        x.restore();
        Due.due("a wrong text", -2000, x.run());
        Due.dueReasons(x, "4:0 6:9");
        x.burn(0, 9);
        x.undo();
        x.undo();
        x.undo();
        x.save();
        x.restore();
        Due.due("a right text", 1, Due.runText(x, "t1"));
        x.tellHouses();
        Due.dueReasons(x, "4:0 6:9");
    }
}
