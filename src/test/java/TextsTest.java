/** Promises 22 to 26: append, run, tell, tellHouses, character. */
public final class TextsTest {
    private static final int NONE = CandleStatute.NONE;
    private static final int BAD = CandleStatute.BAD;
    private static final int FULL = CandleStatute.FULL;
    private static final int REFUSED = CandleStatute.REFUSED;
    private static final int NOTHING = CandleStatute.NOTHING;

    public static void main(String[] args) {
        promise22();
        promise23EveryOrder();
        promise23Order();
        promise23AllOrNone();
        promise23Refused();
        promise23Reasons();
        promise23Faults();
        promise23Long();
        promise24();
        promise25();
        promise26();
        Due.end("TextsTest");
    }

    private static void promise22() {
        CandleStatute x = new CandleStatute();
        Due.due("code 31", BAD, x.append(31));
        Due.due("code 127", BAD, x.append(127));
        Due.due("code far out", BAD, x.append(65536 + 's'));
        Due.due("code 32", 1, x.append(32));
        Due.due("code 126", 2, x.append(126));
        for (int length = 3; length <= 60; length++) {
            Due.due("append", length, x.append('d'));
        }
        Due.due("full", FULL, x.append('d'));
        Due.due("BAD ahead of FULL", BAD, x.append(0));
        Due.due("characters", 60, x.account(12));
        Due.due("no change", 0, x.account(13));
        Due.due("fault", -2000, x.run());
        Due.due("emptied", 0, x.account(12));
        Due.due("room again", 1, x.append('d'));
    }

    private static void promise23EveryOrder() {
        CandleStatute x = new CandleStatute();
        Due.due("s, o, w, b", 5, Due.runText(x, "s0:30/9;s1:05/1;o1>0=90;w2!0*24;b1*2"));
        Due.due("stubs", 2, x.account(0));
        Due.due("wick", 9, x.stubOf(0, 2));
        Due.due("owes", 88, x.stubOf(1, 4));
        Due.due("owes to", 0, x.stubOf(1, 3));
        Due.due("snuffed", 24, x.stubOf(0, 5));
        Due.due("snuffed by", 2, x.stubOf(0, 6));
        Due.due("wax", 3, x.stubOf(1, 1));
        Due.due("p, d, m, h, e, t", 6, Due.runText(x, "p0+20;d;m0:7/3;h0>4;e0;t1"));
        Due.due("mould", 4, x.stubOf(2, 0));
        Due.due("mould", 7, x.stubOf(2, 1));
        Due.due("mould", 3, x.stubOf(2, 2));
        Due.due("store", 13, x.houseOf(4, 2));
        Due.due("ended", 0, x.houseOf(0, 0));
        Due.due("told", 4, x.houseOf(0, 1));
        Due.due("hours", 1, x.account(11));
        Due.due("snuffed", 23, x.stubOf(0, 5));
        Due.due("each run is one change", 2, x.account(13));
        Due.due("undo", 1, x.undo());
        Due.due("undone whole", 2, x.account(0));
        Due.due("undone whole", 1, x.houseOf(0, 0));
        Due.due("undo", 0, x.undo());
        Due.due("undone whole", 0, x.account(0));
        Due.due("the text stays empty", 0, x.account(12));
    }

    private static void promise23Order() {
        CandleStatute x = new CandleStatute();
        Due.due("numbers shift between orders", 4, Due.runText(x, "s0:3/1;s1:9/2;b0*3;b0*4"));
        Due.due("stubs", 1, x.account(0));
        Due.due("house", 1, x.stubOf(0, 0));
        Due.due("wax", 5, x.stubOf(0, 1));
        Due.due("given", 11, x.account(8));
        Due.due("a single letter", 1, 1 + x.pool(0, 5) - 5);
        Due.due("d", 1, Due.runText(x, "d"));
        Due.due("store", 5, x.houseOf(1, 2));
    }

    private static void promise23AllOrNone() {
        CandleStatute x = new CandleStatute();
        x.stub(0, 10, 1);
        Due.dueRefused(x, "third", Due.runText(x, "s1:5/5;p0+4;b0*7;t5"), "16:2 4:0 6:6");
        Due.due("stubs", 1, x.account(0));
        Due.due("wax", 10, x.stubOf(0, 1));
        Due.due("pool", 0, x.account(5));
        Due.due("hours", 0, x.account(11));
        Due.due("brought", 10, x.account(6));
        Due.due("changes", 1, x.account(13));
        Due.due("emptied", 0, x.account(12));
        Due.due("undo", 0, x.undo());
        Due.due("undone", 0, x.account(0));
    }

    private static void promise23Refused() {
        CandleStatute x = new CandleStatute();
        x.stub(0, 10, 1);
        x.stub(1, 10, 1);
        x.writ(1, 0, 3);
        Due.dueRefused(x, "snuffed", Due.runText(x, "b0*1"), "16:0 4:0 5:3");
        Due.dueRefused(x, "owes", Due.runText(x, "o0>1=5;o0>2=5"), "16:1 7:1");
        Due.dueRefused(x, "own", Due.runText(x, "w1!1*5"), "16:0 8:1");
        Due.dueRefused(x, "snuffed already", Due.runText(x, "w2!0*5"), "16:0 9:3");
        Due.dueRefused(x, "wax", Due.runText(x, "t1;p0+11"), "16:1 10:10");
        Due.dueRefused(x, "empty pool", Due.runText(x, "d"), "16:0 11:2");
        Due.dueRefused(x, "store", Due.runText(x, "m0:1/1"), "16:0 13:0");
        Due.dueRefused(x, "already", Due.runText(x, "h5>0"), "16:0 14:0");
        Due.dueRefused(x, "ended", Due.runText(x, "e2;e2"), "16:1 2:2");
        Due.dueRefused(x, "last", Due.runText(x, "e0;e1;e2;e3;e4;e5"), "16:5 15:5");
        Due.dueRefused(x, "tray", Due.runText(x, "s0:30/1;s0:18/1"), "16:1 3:61");
        Due.due("open houses", 6, x.account(1));
    }

    private static void promise23Reasons() {
        CandleStatute x = new CandleStatute();
        x.stub(0, 10, 1);
        x.burn(0, 11);
        Due.dueReasons(x, "4:0 6:10");
        Due.dueRefused(x, "no such stub", Due.runText(x, "t1;b1*1"), "16:1");
        Due.dueRefused(x, "no such house", Due.runText(x, "s6:1/1"), "16:0");
        Due.dueRefused(x, "wax 0", Due.runText(x, "s0:0/1"), "16:0");
        Due.dueRefused(x, "wick 0", Due.runText(x, "s0:1/0"), "16:0");
        Due.dueRefused(x, "wax 31", Due.runText(x, "p0+31"), "16:0");
        Due.dueRefused(x, "light 91", Due.runText(x, "o0>1=91"), "16:0");
        Due.dueRefused(x, "hours 25", Due.runText(x, "t25"), "16:0");
        Due.dueRefused(x, "hours 00", Due.runText(x, "t00"), "16:0");
        Due.dueRefused(x, "the first that fails", Due.runText(x, "s0:30/1;s0:20/1;t99"), "16:1 3:63");
        Due.due("a wrong text", -2001, Due.runText(x, "t"));
        Due.dueReasons(x, "16:1 3:63");
        Due.due("a right text", 1, Due.runText(x, "t1"));
        Due.dueReasons(x, "16:1 3:63");
    }

    private static void promise23Faults() {
        String[] texts = {"", "d;", "x", "D", "d;;d", ";d", "d ", " d", "dd",
            "s", "s0", "s0:", "s0:1", "s0:1/", "s00:1/1", "s0:123/1", "s0:1/12", "s:1/1", "s0/1/1", "s0:/1",
            "m00:1/1", "m0:123/1", "m0:1/12", "h0>12", "w01!1*1", "w0!123*1", "w0!1*123", "p123+1", "p1+123",
            "o1>2=1;", "e0;;", "b", "b1", "b12", "b123*1", "b1*", "b1*123", "b*1", "b1+1",
            "o1>", "o1>2", "o1>23", "o1>2=", "o1>2=123", "o123", "o1=2",
            "w0!", "w01", "w0!1*", "w0!12*99;", "w0!12*99;w", "w0!1*2*",
            "p1", "p1+", "p1*2", "p1+2+", "d1", "d:", "m0:1/", "m0:1/1/", "h0", "h0>", "h0>1>", "h01",
            "e", "e0e", "e01", "e-1", "t", "t1t", "t123", "t1;x", "t1 ;d", "e0;t1;b0*1;q", "~"};
        int[] faults = {0, 2, 0, 0, 2, 0, 1, 0, 1,
            1, 2, 3, 4, 5, 2, 5, 6, 1, 2, 3,
            2, 5, 6, 4, 2, 5, 7, 3, 5,
            7, 3,
            1, 2, 3, 3, 3, 5, 1, 2,
            3, 4, 4, 5, 7, 3, 2,
            3, 2, 5, 9, 10, 6,
            2, 3, 2, 4, 1, 1, 5, 6, 2, 3, 4, 2,
            1, 2, 2, 1, 1, 2, 3, 3, 2, 11, 0};
        CandleStatute x = new CandleStatute();
        for (int i = 0; i < texts.length; i++) {
            if (i % 20 == 0) {
                x = new CandleStatute();
                x.stub(0, 10, 1);
            }
            Due.due("run " + texts[i], -2000 - faults[i], Due.runText(x, texts[i]));
            Due.due("emptied", 0, x.account(12));
            Due.due("changes", 1, x.account(13));
            Due.due("no reason", NOTHING, x.reason(0, false));
        }
    }

    private static void promise23Long() {
        CandleStatute x = new CandleStatute();
        StringBuilder hours = new StringBuilder("t1");
        for (int i = 0; i < 19; i++) {
            hours.append(";t1");
        }
        Due.due("20 orders in 59 characters", 20, Due.runText(x, hours.toString()));
        Due.due("20 orders in 60 characters", 20, Due.runText(x, hours + "1"));
        Due.due("hours", 50, x.account(11));
        Due.due("too early at 60", -2060, Due.runText(x, hours + ";"));
        String shares = "d;".repeat(30);
        Due.due("too early at 60", -2060, Due.runText(x, shares));
        Due.dueRefused(x, "30 orders", Due.runText(x, shares.substring(0, 59)), "16:0 11:0");
    }

    private static void promise24() {
        CandleStatute x = new CandleStatute();
        x.stub(1, 12, 4);
        Due.due("tell", 8, x.tell(0));
        Due.dueText("line", "0@1:12/4", Due.lineOf(x));
        x.owe(0, 0, 30);
        Due.due("tell", 13, x.tell(0));
        Due.dueText("line", "0@1:12/4>0=30", Due.lineOf(x));
        x.writ(5, 0, 5);
        Due.due("tell", 15, x.tell(0));
        Due.dueText("line", "0@1:12/4>0=30!5", Due.lineOf(x));
        Due.due("no stub", NONE, x.tell(1));
        Due.due("no stub", NONE, x.tell(-1));
        Due.dueText("the line stays", "0@1:12/4>0=30!5", Due.lineOf(x));
        x.burn(0, 1);
        x.undo();
        x.undo();
        Due.dueText("the line is not undone", "0@1:12/4>0=30!5", Due.lineOf(x));
        for (int i = 1; i < 12; i++) {
            x.stub(i % 6, 1, 1);
        }
        x.writ(0, 11, 24);
        Due.due("tell", 11, x.tell(11));
        Due.dueText("line", "11@5:1/1!24", Due.lineOf(x));
        Due.due("no change", 8, x.account(13));
    }

    private static void promise25() {
        CandleStatute x = new CandleStatute();
        Due.due("tellHouses", 11, x.tellHouses());
        Due.dueText("line", "0 0 0 0 0 0", Due.lineOf(x));
        x.stub(1, 20, 1);
        x.pool(0, 12);
        x.share();
        x.pool(0, 3);
        x.stub(5, 20, 1);
        x.end(2);
        Due.due("tellHouses", 14, x.tellHouses());
        Due.dueText("line", "0 12+3 x 0 0 0", Due.lineOf(x));
        x.pool(1, 1);
        Due.due("tellHouses", 16, x.tellHouses());
        Due.dueText("line", "0 12+3 x 0 0 0+1", Due.lineOf(x));
        x.pool(1, 4);
        Due.due("tellHouses", 16, x.tellHouses());
        Due.dueText("line", "0 12+3 x 0 0 0+5", Due.lineOf(x));
        x.share();
        x.end(0);
        Due.due("tellHouses", 12, x.tellHouses());
        Due.dueText("line", "x 15 x 0 0 5", Due.lineOf(x));
    }

    private static void promise26() {
        CandleStatute x = new CandleStatute();
        Due.due("empty", NONE, x.character(0));
        x.stub(3, 7, 2);
        x.tell(0);
        Due.due("first", '0', x.character(0));
        Due.due("sign", '@', x.character(1));
        Due.due("last", '2', x.character(6));
        Due.due("behind", NONE, x.character(7));
        Due.due("before", NONE, x.character(-1));
        Due.due("far out", NONE, x.character(Integer.MAX_VALUE));
        Due.due("refused", REFUSED, x.burn(0, 8));
        Due.due("stays", '7', x.character(4));
        Due.due("a longer line", 11, x.tellHouses());
        Due.due("its last", '0', x.character(10));
        Due.due("a shorter line", 7, x.tell(0));
        Due.due("its last", '2', x.character(6));
        for (int index = 7; index < 12; index++) {
            Due.due("nothing of the longer one", NONE, x.character(index));
        }
    }
}
