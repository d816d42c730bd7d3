/**
 * "Terms", the paragraph Codes. A call is made on one of two objects that are alike, and not on the other:
 * then all that they are asked, undo, and restore, must have the same answer.
 */
public final class CodesTest {
    private static final int NONE = CandleStatute.NONE;
    private static final int BAD = CandleStatute.BAD;
    private static final int FULL = CandleStatute.FULL;
    private static final int REFUSED = CandleStatute.REFUSED;
    private static final int NOTHING = CandleStatute.NOTHING;

    public static void main(String[] args) {
        noneOfStubs();
        noneOfHouses();
        bad();
        refusedStubs();
        refusedLightAndWrits();
        refusedHouses();
        refusedPool();
        refusedForRoom();
        refusedAsTheLastOne();
        nothing();
        questions();
        runEmptiesTheText();
        aRefusedRunChangesNoMore();
        aFullTextStays();
        whatAppendTellAndSaveChange();
        Due.end("CodesTest");
    }

    private static void noneOfStubs() {
        dueKept("burn", NONE, x -> x.burn(4, 1));
        dueKept("owe", NONE, x -> x.owe(4, 2, 1));
        dueKept("owe", NONE, x -> x.owe(2, 6, 1));
        dueKept("writ", NONE, x -> x.writ(2, 4, 1));
        dueKept("writ", NONE, x -> x.writ(6, 2, 1));
        dueKept("stubOf", NONE, x -> x.stubOf(4, 0));
        dueKept("pool", NONE, x -> x.pool(4, 1));
        dueKept("brightest", NONE, x -> x.brightest(4));
        dueKept("tell", NONE, x -> x.tell(4));
        dueKept("character", NONE, x -> x.character(13));
        dueKept("character", NONE, x -> x.character(-1));
    }

    private static void noneOfHouses() {
        dueKept("stub", NONE, x -> x.stub(6, 1, 1));
        dueKept("part", NONE, x -> x.part(6));
        dueKept("partAgain", NONE, x -> x.partAgain(6));
        dueKept("mould", NONE, x -> x.mould(6, 1, 1));
        dueKept("heir", NONE, x -> x.heir(6, 1));
        dueKept("heir", NONE, x -> x.heir(1, 6));
        dueKept("end", NONE, x -> x.end(6));
        dueKept("houseOf", NONE, x -> x.houseOf(6, 0));
        dueKept("inherits", NONE, x -> x.inherits(6));
        dueKept("wouldMelt", NONE, x -> x.wouldMelt(6));
        dueKept("weight", NONE, x -> x.weight(6));
        dueKept("weightAgain", NONE, x -> x.weightAgain(6));
        dueKept("ranked", NONE, x -> x.ranked(6));
    }

    private static void bad() {
        dueKept("stub", BAD, x -> x.stub(2, 31, 1));
        dueKept("stub", BAD, x -> x.stub(2, 1, 10));
        dueKept("burn", BAD, x -> x.burn(0, 0));
        dueKept("owe", BAD, x -> x.owe(2, 0, 91));
        dueKept("writ", BAD, x -> x.writ(2, 2, 25));
        dueKept("stubOf", BAD, x -> x.stubOf(0, 8));
        dueKept("pool", BAD, x -> x.pool(0, 0));
        dueKept("mould", BAD, x -> x.mould(0, 0, 1));
        dueKept("mould", BAD, x -> x.mould(0, 1, 0));
        dueKept("pass", BAD, x -> x.pass(25));
        dueKept("pass", BAD, x -> x.pass(0));
        dueKept("houseOf", BAD, x -> x.houseOf(0, 8));
        dueKept("append", BAD, x -> x.append(127));
        dueKept("reason", BAD, x -> x.reason(3, false));
        dueKept("account", BAD, x -> x.account(14));
    }

    private static void refusedStubs() {
        dueRefused("2:5", x -> x.stub(5, 1, 1));
        dueRefused("3:61", x -> x.stub(1, 3, 1));
        dueRefused("4:1 5:4", x -> x.burn(1, 1));
        dueRefused("4:0 6:14", x -> x.burn(0, 15));
    }

    private static void refusedLightAndWrits() {
        dueRefused("2:5", x -> x.owe(1, 5, 1));
        dueRefused("8:1", x -> x.owe(1, 1, 1));
        dueRefused("7:1", x -> x.owe(0, 2, 1));
        dueRefused("2:5", x -> x.writ(5, 0, 1));
        dueRefused("8:0", x -> x.writ(0, 0, 1));
        dueRefused("9:4", x -> x.writ(2, 1, 1));
        dueRefused("1:2", x -> x.writ(0, 2, 1));
    }

    private static void refusedHouses() {
        dueRefused("14:3", x -> x.heir(3, 3));
        dueRefused("14:0", x -> x.heir(5, 0));
        dueRefused("2:5", x -> x.end(5));
    }

    private static void refusedPool() {
        dueRefused("10:14", x -> x.pool(0, 15));
        dueRefused("2:5", x -> x.mould(5, 1, 1));
        dueRefused("13:6", x -> x.mould(0, 7, 1));
        dueUnchanged("share", CodesTest::makeShared, REFUSED, x -> x.share(), "11:4");
        dueUnchanged("mould", CodesTest::makeHeavy, REFUSED, x -> x.mould(0, 6, 1), "3:63");
    }

    private static void refusedForRoom() {
        dueUnchanged("stub", Scenes::bringTwelve, REFUSED, x -> x.stub(0, 1, 1), "1:12");
        dueUnchanged("mould", Scenes::bringTwelve, REFUSED, x -> x.mould(0, 1, 1), "1:12");
    }

    private static void refusedAsTheLastOne() {
        dueUnchanged("end", CodesTest::makeLast, REFUSED, x -> x.end(2), "15:2");
        dueUnchanged("end", CodesTest::makeLast, REFUSED, x -> x.end(0), "2:0");
        dueUnchanged("inherits", CodesTest::makeLast, NOTHING, x -> x.inherits(2), "");
        dueUnchanged("wouldMelt", CodesTest::makeLast, NOTHING, x -> x.wouldMelt(2), "");
    }

    private static void nothing() {
        dueKept("stubOf", NOTHING, x -> x.stubOf(1, 3));
        dueKept("stubOf", NOTHING, x -> x.stubOf(0, 6));
        dueKept("inherits", NOTHING, x -> x.inherits(5));
        dueKept("wouldMelt", NOTHING, x -> x.wouldMelt(5));
        dueKept("reason", NOTHING, x -> x.reason(2, true));
        dueUnchanged("undo", x -> x.stub(6, 1, 1), NOTHING, x -> x.undo(), "");
        dueUnchanged("restore", Scenes::bringTwelve, NOTHING, x -> x.restore(), "");
    }

    private static void questions() {
        dueKept("stubOf", 3, x -> x.stubOf(0, 2));
        dueKept("part", 2, x -> x.part(1));
        dueKept("partAgain", 2, x -> x.partAgain(1));
        dueKept("houseOf", 30, x -> x.houseOf(1, 4));
        dueKept("inherits", 1, x -> x.inherits(0));
        dueKept("wouldMelt", 1, x -> x.wouldMelt(0));
        dueKept("weight", 57, x -> x.weight(1));
        dueKept("weightAgain", 57, x -> x.weightAgain(1));
        dueKept("ranked", 1, x -> x.ranked(0));
        dueKept("brightest", 1, x -> x.brightest(0));
        dueKept("character", '1', x -> x.character(4));
        dueKept("reason", 4, x -> x.reason(1, true));
        dueKept("account", 39, x -> x.account(10));
        dueKept("isBalanced", 1, x -> x.isBalanced());
        dueKept("meanWax", 19, x -> (int) x.meanWax());
        dueKept("snuffedShare", 50, x -> (int) (100 * x.snuffedShare()));
    }

    private static void dueKept(String call, int answer, Due.Call it) {
        dueUnchanged(call, CodesTest::makeBusy, answer, it, "4:1 5:4");
    }

    private static void dueRefused(String reasons, Due.Call it) {
        dueUnchanged("refused", CodesTest::makeBusy, REFUSED, it, reasons);
    }

    private static void dueUnchanged(String call, Due.Calls ahead, int answer, Due.Call it, String reasons) {
        CandleStatute x = Due.after(ahead);
        CandleStatute y = Due.after(ahead);
        Due.due(call, answer, it.on(x));
        Due.dueReasons(x, reasons);
        Due.due(call + ", the text", y.account(12), x.account(12));
        dueAlike(call, x, y);
    }

    /** It undoes all that can be undone, and restores the snapshot, on both. */
    private static void dueAlike(String call, CandleStatute x, CandleStatute y) {
        Due.dueText(call + ", the line", Due.lineOf(y), Due.lineOf(x));
        Due.due(call + ", the changes", y.account(13), x.account(13));
        Due.dueText(call, Due.pictureOf(y), Due.pictureOf(x));
        for (int i = 0; i < 9; i++) {
            Due.due(call + ", undo", y.undo(), x.undo());
        }
        Due.dueText(call + ", undone", Due.pictureOf(y), Due.pictureOf(x));
        Due.due(call + ", restore", y.restore(), x.restore());
        for (int what = 0; what < 12; what++) {
            Due.due(call + ", restored " + what, y.account(what), x.account(what));
        }
    }

    /** With a snapshot, and 8 changes since, which fill what can be undone. */
    private static void makeBusy(CandleStatute x) {
        x.stub(0, 20, 3);
        x.stub(1, 29, 2);
        x.stub(1, 28, 1);
        x.stub(2, 10, 4);
        x.pool(0, 6);
        x.share();
        x.pool(3, 2);
        x.save();
        x.owe(0, 1, 30);
        x.owe(3, 0, 9);
        x.writ(0, 1, 5);
        x.writ(0, 3, 7);
        x.heir(3, 3);
        x.end(5);
        x.pass(1);
        x.burn(2, 2);
        x.burn(1, 1);
        x.tell(0);
        Due.writeText(x, "t1");
    }

    private static void makeShared(CandleStatute x) {
        makeBusy(x);
        x.share();
    }

    private static void makeHeavy(CandleStatute x) {
        makeBusy(x);
        x.stub(0, 29, 1);
        x.stub(0, 10, 1);
    }

    private static void makeLast(CandleStatute x) {
        x.stub(0, 9, 1);
        x.stub(1, 9, 1);
        x.owe(0, 1, 9);
        x.pool(0, 3);
        x.end(0);
        x.end(1);
        x.save();
        x.end(3);
        x.end(4);
        x.end(5);
    }

    private static void runEmptiesTheText() {
        String[] texts = {"", "t", "t1;", "q", "t1;d;t", "d", "t25", "t1", "t1;t1"};
        int[] answers = {-2000, -2001, -2003, -2000, -2006, REFUSED, REFUSED, 1, 2};
        for (int i = 0; i < texts.length; i++) {
            CandleStatute x = new CandleStatute();
            Due.due("run " + texts[i], answers[i], Due.runText(x, texts[i]));
            Due.due("characters", 0, x.account(12));
            Due.due("an empty text", -2000, x.run());
            Due.due("a new text", 1, x.append('t'));
            Due.due("a new text", 2, x.append('1'));
            Due.due("a new text", 1, x.run());
        }
    }

    private static void aRefusedRunChangesNoMore() {
        String[] texts = {"", "t1;t", "t1;b0*1;q", "t1;b0*1;p0+1;e0;e0", "t1;e1;d;d", "t24;h0>3;b3*1;b9*1", "s2:5/5;t0"};
        int[] answers = {-2000, -2004, -2008, REFUSED, REFUSED, REFUSED, REFUSED};
        String[] reasons = {"4:1 5:4", "4:1 5:4", "4:1 5:4", "16:4 2:0", "16:3 11:3", "16:3", "16:1"};
        for (int i = 0; i < texts.length; i++) {
            CandleStatute x = Due.after(CodesTest::makeBusy);
            CandleStatute y = Due.after(CodesTest::makeBusy);
            x.append('~');
            x.run();
            Due.due("run " + texts[i], answers[i], Due.runText(x, texts[i]));
            Due.dueReasons(x, reasons[i]);
            dueAlike(texts[i], x, y);
        }
    }

    private static void aFullTextStays() {
        CandleStatute x = new CandleStatute();
        for (int i = 1; i < 60; i++) {
            Due.due("append", i, x.append(i % 3 == 0 ? ';' : i % 3 == 1 ? 't' : '1'));
        }
        Due.due("the last place", 60, x.append('q'));
        Due.due("full", FULL, x.append('t'));
        Due.due("BAD ahead of FULL", BAD, x.append(127));
        Due.due("BAD ahead of FULL", BAD, x.append(31));
        Due.due("characters", 60, x.account(12));
        Due.due("the last character is as before", -2059, x.run());
    }

    private static void whatAppendTellAndSaveChange() {
        CandleStatute x = Due.after(CodesTest::makeBusy);
        CandleStatute y = Due.after(CodesTest::makeBusy);
        Due.due("append", 3, x.append(';'));
        Due.due("the text alone", y.account(12) + 1, x.account(12));
        Due.due("tell", 10, x.tell(1));
        Due.dueText("the line alone", "1@1:29/2!4", Due.lineOf(x));
        Due.due("tellHouses", 13, x.tellHouses());
        Due.dueText("the line alone", "6 0 0+2 0 0 x", Due.lineOf(x));
        y.tellHouses();
        Due.due("save", 4, x.save());
        y.save();
        dueAlike("append, tell, tellHouses and save", x, y);
        Due.dueReasons(x, "4:1 5:4");
    }
}
