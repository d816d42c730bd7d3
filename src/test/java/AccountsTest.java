/** Promises 27 to 34: reason, account, isBalanced, meanWax, snuffedShare, undo, save, restore. */
public final class AccountsTest {
    private static final int BAD = CandleStatute.BAD;
    private static final int NOTHING = CandleStatute.NOTHING;

    public static void main(String[] args) {
        promise27();
        promise28();
        promise29();
        promise30();
        promise31();
        promise32();
        promise32EveryChange();
        promise32WholeState();
        promise32WhatStays();
        promise33();
        promise34();
        Due.end("AccountsTest");
    }

    private static void promise27() {
        CandleStatute x = new CandleStatute();
        Due.due("depth -1", BAD, x.reason(-1, false));
        Due.due("depth 3", BAD, x.reason(3, true));
        Due.due("nothing refused", NOTHING, x.reason(0, false));
        Due.due("nothing refused", NOTHING, x.reason(0, true));
        x.stub(0, 5, 1);
        x.burn(0, 6);
        Due.due("reason", 4, x.reason(0, false));
        Due.due("detail", 0, x.reason(0, true));
        Due.due("behind", 6, x.reason(1, false));
        Due.due("detail behind", 5, x.reason(1, true));
        Due.due("none stands there", NOTHING, x.reason(2, false));
        Due.due("none stands there", NOTHING, x.reason(2, true));
        x.burn(9, 1);
        x.burn(0, 99);
        x.burn(0, 1);
        Due.dueReasons(x, "4:0 6:5");
        x.share();
        Due.dueReasons(x, "11:1");
        Due.runText(x, "b0*9");
        Due.dueReasons(x, "16:0 4:0 6:4");
        x.heir(0, 1);
        Due.dueReasons(x, "14:1");
        x.undo();
        x.save();
        x.restore();
        Due.dueReasons(x, "14:1");
    }

    private static void promise28() {
        CandleStatute x = new CandleStatute();
        x.stub(0, 30, 2);
        x.stub(1, 20, 3);
        x.stub(2, 10, 4);
        x.owe(1, 0, 10);
        x.owe(2, 3, 20);
        x.burn(1, 5);
        x.burn(2, 2);
        x.pool(0, 9);
        x.share();
        x.pool(0, 4);
        x.writ(3, 0, 5);
        x.writ(2, 0, 5);
        x.pass(2);
        x.end(5);
        Due.writeText(x, "ab;");
        int[] due = {3, 5, 1, 40, 9, 4, 60, 7, 23, 18, 12, 2, 3, 8};
        for (int what = 0; what < 14; what++) {
            Due.due("account " + what, due[what], x.account(what));
        }
        Due.due("what -1", BAD, x.account(-1));
        Due.due("what 14", BAD, x.account(14));
    }

    private static void promise29() {
        CandleStatute x = new CandleStatute();
        Due.due("at first", 1, x.isBalanced());
        x.stub(0, 30, 2);
        x.stub(1, 30, 2);
        Due.due("stubs", 1, x.isBalanced());
        x.owe(0, 4, 77);
        x.pool(0, 11);
        x.pool(1, 19);
        Due.due("pool", 1, x.isBalanced());
        x.burn(0, 3);
        Due.due("burnt", 1, x.isBalanced());
        x.share();
        Due.due("shared", 1, x.isBalanced());
        x.end(1);
        x.end(2);
        Due.due("ended", 1, x.isBalanced());
        x.undo();
        x.undo();
        x.undo();
        Due.due("undone", 1, x.isBalanced());
    }

    private static void promise30() {
        CandleStatute x = new CandleStatute();
        Due.dueReal("without stubs", 0.0, x.meanWax());
        x.stub(0, 10, 1);
        Due.dueReal("one", 10.0, x.meanWax());
        x.stub(1, 5, 1);
        x.stub(2, 5, 1);
        Due.dueReal("three", 20.0 / 3.0, x.meanWax());
        x.pool(0, 10);
        Due.dueReal("two", 5.0, x.meanWax());
        x.pool(0, 5);
        x.pool(0, 5);
        Due.dueReal("none any more", 0.0, x.meanWax());
        for (int i = 0; i < 12; i++) {
            x.stub(i % 6, i < 6 ? 30 : 7, 1);
        }
        Due.dueReal("twelve", 222.0 / 12.0, x.meanWax());
    }

    private static void promise31() {
        CandleStatute x = new CandleStatute();
        Due.dueReal("without stubs", 0.0f, x.snuffedShare());
        x.stub(0, 10, 1);
        Due.dueReal("none", 0.0f, x.snuffedShare());
        x.stub(1, 5, 1);
        x.stub(2, 5, 1);
        x.writ(3, 1, 2);
        Due.dueReal("a third", 1.0f / 3.0f, x.snuffedShare());
        x.writ(4, 0, 1);
        Due.dueReal("two thirds", 2.0f / 3.0f, x.snuffedShare());
        x.pass(2);
        Due.dueReal("none", 0.0f, x.snuffedShare());
        x.writ(3, 1, 2);
        x.pool(0, 10);
        Due.dueReal("a half", 0.5f, x.snuffedShare());
        x.pool(1, 5);
        Due.dueReal("all", 1.0f, x.snuffedShare());
        x.pool(0, 5);
        Due.dueReal("without stubs again", 0.0f, x.snuffedShare());
        for (int i = 0; i < 12; i++) {
            x.stub(i % 6, 7, 1);
        }
        for (int i = 0; i < 7; i++) {
            x.writ((i + 1) % 6, i, 1);
        }
        Due.dueReal("seven of twelve", 7.0f / 12.0f, x.snuffedShare());
    }

    private static void promise32() {
        CandleStatute x = new CandleStatute();
        for (int i = 0; i < 10; i++) {
            x.pass(i + 1);
            Due.due("can be undone", Math.min(i + 1, 8), x.account(13));
        }
        int hours = 55;
        for (int i = 0; i < 8; i++) {
            Due.due("undo", 7 - i, x.undo());
            hours -= 10 - i;
            Due.due("hours", hours, x.account(11));
        }
        Due.due("none left", NOTHING, x.undo());
        Due.due("hours", 3, x.account(11));
        for (int i = 0; i < 20; i++) {
            x.pass(1);
            x.pass(1);
            Due.due("undo", Math.min(i + 1, 7), x.undo());
        }
        Due.due("hours", 23, x.account(11));
    }

    private static void promise32EveryChange() {
        CandleStatute x = new CandleStatute();
        x.stub(0, 20, 3);
        x.stub(1, 20, 2);
        x.owe(0, 1, 10);
        x.burn(0, 2);
        x.writ(2, 0, 3);
        x.pool(1, 5);
        x.share();
        x.end(1);
        x.undo();
        Due.due("end undone", 1, x.houseOf(1, 0));
        Due.due("end undone", 4, x.stubOf(0, 4));
        Due.due("end undone", 1, x.stubOf(1, 0));
        int store = x.houseOf(1, 2);
        x.undo();
        Due.due("share undone", 5, x.account(5));
        Due.due("share undone", 0, x.houseOf(1, 2));
        Due.due("share had given", 5, store);
        x.undo();
        Due.due("pool undone", 0, x.account(5));
        Due.due("pool undone", 20, x.stubOf(1, 1));
        x.undo();
        Due.due("writ undone", 0, x.account(2));
        x.undo();
        Due.due("burn undone", 20, x.stubOf(0, 1));
        Due.due("burn undone", 10, x.stubOf(0, 4));
        Due.due("burn undone", 0, x.stubOf(0, 7));
        Due.due("burn undone", 0, x.account(7) + x.account(8) + x.account(9));
        x.undo();
        Due.due("owe undone", NOTHING, x.stubOf(0, 3));
        Due.due("undo", 1, x.undo());
        Due.due("stub undone", 20, x.account(6));
        x.heir(0, 3);
        Due.due("undo", 1, x.undo());
        Due.due("heir undone", 1, x.houseOf(0, 1));
        x.pool(0, 20);
        x.share();
        x.mould(0, 20, 3);
        x.undo();
        Due.due("mould undone", 20, x.houseOf(0, 2));
        Due.due("mould undone", 0, x.account(0));
    }

    private static void promise32WholeState() {
        for (int kind = 0; kind < 11; kind++) {
            CandleStatute x = new CandleStatute();
            Due.due("begin", 6, Due.runText(x, "s0:20/3;s1:20/2;s1:9/1;p1+8;d;p0+1"));
            Due.due("begin", 4, Due.runText(x, "o0>1=50;w2!0*3;w0!2*5;t1"));
            x.save();
            String before = Due.pictureOf(x);
            Due.due("change " + kind, 1, makeChange(x, kind) >= 0 ? 1 : 0);
            Due.due("it changes something", 0, before.equals(Due.pictureOf(x)) ? 1 : 0);
            Due.due("undo", 2, x.undo());
            Due.dueText("change " + kind + " undone", before, Due.pictureOf(x));
            makeChange(x, kind);
            x.restore();
            Due.dueText("change " + kind + " restored", before, Due.pictureOf(x));
        }
    }

    private static int makeChange(CandleStatute x, int kind) {
        switch (kind) {
            case 0: return x.stub(3, 5, 5);
            case 1: return x.burn(1, 4);
            case 2: return x.owe(1, 4, 17);
            case 3: return x.writ(5, 1, 24);
            case 4: return x.pool(0, 7);
            case 5: return x.share();
            case 6: return x.mould(1, 6, 2);
            case 7: return x.heir(2, 2);
            case 8: return x.end(1);
            case 9: return x.pass(2);
            default: return Due.runText(x, "t2;e0;b0*1");
        }
    }

    private static void promise32WhatStays() {
        CandleStatute x = new CandleStatute();
        x.stub(0, 20, 3);
        x.tell(0);
        x.burn(0, 21);
        Due.writeText(x, "t1");
        Due.due("undo", 0, x.undo());
        Due.due("the text stays", 2, x.account(12));
        Due.dueText("the line stays", "0@0:20/3", Due.lineOf(x));
        Due.dueReasons(x, "4:0 6:20");
        Due.due("run", 1, x.run());
    }

    private static void promise33() {
        CandleStatute x = new CandleStatute();
        x.stub(0, 20, 3);
        Due.due("save", 1, x.save());
        x.stub(1, 20, 3);
        Due.due("in place of the earlier one", 2, x.save());
        x.stub(2, 20, 3);
        Due.due("no change", 3, x.account(13));
        Due.due("undo", 2, x.undo());
        Due.due("undo", 1, x.undo());
        Due.due("restore", 2, x.restore());
        Due.due("house", 1, x.stubOf(1, 0));
    }

    private static void promise34() {
        CandleStatute x = new CandleStatute();
        Due.due("no snapshot", NOTHING, x.restore());
        x.stub(0, 20, 3);
        x.owe(0, 2, 30);
        x.writ(1, 0, 4);
        x.heir(3, 3);
        x.pool(0, 6);
        x.save();
        x.pass(9);
        x.burn(0, 3);
        x.share();
        x.end(0);
        x.tellHouses();
        x.stub(0, 1, 1);
        Due.writeText(x, "d;");
        Due.due("restore", 1, x.restore());
        int[] due = {1, 6, 1, 14, 0, 6, 20, 0, 0, 0, 30, 0, 2, 0};
        for (int what = 0; what < 14; what++) {
            Due.due("account " + what, due[what], x.account(what));
        }
        Due.due("heir", 3, x.houseOf(3, 1));
        Due.due("pooled", 6, x.houseOf(0, 3));
        Due.dueText("the line stays", "x 1 5 0 0 0", Due.lineOf(x));
        Due.dueReasons(x, "2:0");
        Due.due("nothing can be undone", NOTHING, x.undo());
        x.pass(4);
        Due.due("can be undone", 0, x.undo());
        x.burn(0, 9);
        x.pool(0, 14);
        Due.due("it stays", 1, x.restore());
        Due.due("wax", 14, x.stubOf(0, 1));
        Due.due("snuffed", 4, x.stubOf(0, 5));
    }
}
