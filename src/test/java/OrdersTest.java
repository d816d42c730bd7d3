/** "Terms", the paragraph Texts, and what "In doubt" says of orders: forms, faults, numbers, all or none. */
public final class OrdersTest {
    private static final int REFUSED = CandleStatute.REFUSED;

    /** Every form that an order can have, with # for a digit. */
    private static final String[] FORMS = {"s#:#/#", "s#:##/#", "b#*#", "b#*##", "b##*#", "b##*##",
        "o#>#=#", "o#>#=##", "o##>#=#", "o##>#=##", "w#!#*#", "w#!#*##", "w#!##*#", "w#!##*##",
        "p#+#", "p#+##", "p##+#", "p##+##", "d", "m#:#/#", "m#:##/#", "h#>#", "e#", "t#", "t##"};
    private static final String SIGNS = "sbowpdmhet09:/*>=!+; x-";

    public static void main(String[] args) {
        everyFormIsRight();
        everyBeginningIsTooEarly();
        everySignAtEveryPlace();
        everyShortText();
        anyDigit();
        eachOrderIsItsCall();
        eachOrderOfTwoDigitStubs();
        numbersInTheirRange();
        numbersOutOfRange();
        rangeAheadOfReasons();
        oneAfterTheOther();
        allOrNone();
        theNumberOfTheOrder();
        fullText();
        Due.end("OrdersTest");
    }

    private static void everyFormIsRight() {
        for (String form : FORMS) {
            dueFault(form.replace('#', '1'));
            dueFault("d;" + form.replace('#', '0'));
            dueFault(form.replace('#', '9') + ";d");
        }
    }

    private static void everyBeginningIsTooEarly() {
        for (String form : FORMS) {
            String order = form.replace('#', '1');
            for (int length = 0; length < order.length(); length++) {
                dueFault(order.substring(0, length));
                dueFault("t1;" + order.substring(0, length));
            }
            dueFault(order + ";");
        }
    }

    private static void everySignAtEveryPlace() {
        for (String form : FORMS) {
            String order = form.replace('#', '1');
            for (int place = 0; place <= order.length(); place++) {
                String rest = place < order.length() ? order.substring(place + 1) : "";
                for (char sign = 32; sign < 127; sign++) {
                    dueFault(order.substring(0, place) + sign + rest);
                }
            }
        }
    }

    private static void everyShortText() {
        for (int first = 0; first < SIGNS.length(); first++) {
            dueFault(SIGNS.substring(first, first + 1));
            for (int second = 0; second < SIGNS.length(); second++) {
                String two = SIGNS.substring(first, first + 1) + SIGNS.charAt(second);
                dueFault(two);
                for (int third = 0; third < SIGNS.length(); third++) {
                    dueFault(two + SIGNS.charAt(third));
                }
            }
        }
    }

    private static void anyDigit() {
        for (char digit = '0'; digit <= '9'; digit++) {
            for (String form : FORMS) {
                dueFault(form.replace('#', digit));
            }
        }
    }

    private static void dueFault(String text) {
        CandleStatute x = new CandleStatute();
        int fault = faultOf(text);
        int answer = Due.runText(x, text);
        if (fault >= 0) {
            Due.due("run " + text, -2000 - fault, answer);
            Due.due("no reason for " + text, CandleStatute.NOTHING, x.reason(0, false));
            Due.due("no change by " + text, 0, x.account(13));
        } else {
            Due.due("carried out or refused: " + text, 1, answer == REFUSED || answer > 0 ? 1 : 0);
        }
        Due.due("emptied of " + text, 0, x.account(12));
    }

    /** By the forms alone: -1 for a right text. */
    private static int faultOf(String text) {
        int start = 0;
        for (int i = 0; i < text.length(); i++) {
            if (text.charAt(i) == ';' && isOrder(text.substring(start, i))) {
                start = i + 1;
            } else if (!isBeginning(text.substring(start, i + 1))) {
                return i;
            }
        }
        return isOrder(text.substring(start)) ? -1 : text.length();
    }

    private static boolean isOrder(String text) {
        for (String form : FORMS) {
            if (form.length() == text.length() && isBeginningOf(form, text)) {
                return true;
            }
        }
        return false;
    }

    private static boolean isBeginning(String text) {
        for (String form : FORMS) {
            if (form.length() >= text.length() && isBeginningOf(form, text)) {
                return true;
            }
        }
        return false;
    }

    private static boolean isBeginningOf(String form, String text) {
        for (int i = 0; i < text.length(); i++) {
            char sign = text.charAt(i);
            if (form.charAt(i) == '#' ? sign < '0' || sign > '9' : sign != form.charAt(i)) {
                return false;
            }
        }
        return true;
    }

    private static void eachOrderIsItsCall() {
        dueSame("s3:5/7", x -> x.stub(3, 5, 7));
        dueSame("s3:05/7", x -> x.stub(3, 5, 7));
        dueSame("s5:29/9", x -> x.stub(5, 29, 9));
        dueSame("b1*2", x -> x.burn(1, 2));
        dueSame("b01*02", x -> x.burn(1, 2));
        dueSame("b1*20", x -> x.burn(1, 20));
        dueSame("o1>5=7", x -> x.owe(1, 5, 7));
        dueSame("o01>5=07", x -> x.owe(1, 5, 7));
        dueSame("o1>5=90", x -> x.owe(1, 5, 90));
        dueSame("w4!1*3", x -> x.writ(4, 1, 3));
        dueSame("w4!01*03", x -> x.writ(4, 1, 3));
        dueSame("w4!1*24", x -> x.writ(4, 1, 24));
        dueSame("p1+4", x -> x.pool(1, 4));
        dueSame("p01+04", x -> x.pool(1, 4));
        dueSame("p1+19", x -> x.pool(1, 19));
        dueSame("d", x -> x.share());
        dueSame("m0:3/8", x -> x.mould(0, 3, 8));
        dueSame("m0:03/8", x -> x.mould(0, 3, 8));
        dueSame("m0:12/8", x -> x.mould(0, 12, 8));
        dueSame("h1>4", x -> x.heir(1, 4));
        dueSame("e0", x -> x.end(0));
        dueSame("t2", x -> x.pass(2));
        dueSame("t02", x -> x.pass(2));
        dueSame("t23", x -> x.pass(23));
    }

    private static void dueSame(String text, Due.Call call) {
        CandleStatute x = Due.after(OrdersTest::makeBusy);
        CandleStatute y = Due.after(OrdersTest::makeBusy);
        Due.due("one order: " + text, 1, Due.runText(x, text));
        Due.due("the call of " + text, 1, call.on(y) >= 0 ? 1 : 0);
        Due.dueText("the same by " + text, Due.pictureOf(y), Due.pictureOf(x));
        Due.due("changes", y.account(13), x.account(13));
    }

    private static void makeBusy(CandleStatute x) {
        x.stub(0, 30, 2);
        x.stub(2, 25, 3);
        x.stub(0, 27, 4);
        x.pool(0, 12);
        x.share();
        x.pool(0, 5);
        x.owe(0, 1, 40);
        x.writ(1, 0, 3);
    }

    private static void eachOrderOfTwoDigitStubs() {
        String[] texts = {"b11*1", "o10>0=9", "o10>0=90", "w0!11*9", "w0!11*24", "p10+1", "p11+02"};
        for (String text : texts) {
            CandleStatute x = twelveStubs();
            Due.due(text, 1, Due.runText(x, text));
        }
        CandleStatute x = twelveStubs();
        Due.due("b, o, w, p", 4, Due.runText(x, "b11*1;o10>0=90;w0!11*24;p10+2"));
        Due.dueText("the eleventh", "4 1 1 0 90 0 - 0", Due.stubOf(x, 10));
        Due.dueText("the twelfth", "5 2 1 - 0 24 0 1", Due.stubOf(x, 11));
        Due.dueRefused(x, "a thirteenth", Due.runText(x, "b12*1"), "16:0");
    }

    private static CandleStatute twelveStubs() {
        CandleStatute x = new CandleStatute();
        for (int i = 0; i < 12; i++) {
            x.stub(i % 6, 3, 1);
        }
        return x;
    }

    private static void numbersInTheirRange() {
        String[] texts = {"s0:1/1", "s5:30/9", "b0*1", "b1*28", "b0*30", "o0>0=1", "o1>5=90", "w0!0*1", "w5!1*24",
            "p0+1", "p1+28", "p0+30", "m0:1/1", "m5:30/9", "m0:30/1", "h0>0", "h5>5", "h3>0", "e0", "e5", "t1", "t24"};
        for (String text : texts) {
            Due.due("in range: " + text, 1, Due.runText(Due.after(OrdersTest::makeRanged), text));
        }
    }

    private static void numbersOutOfRange() {
        String[] texts = {"s6:1/1", "s9:1/1", "s0:0/1", "s0:00/1", "s0:31/1", "s0:99/1", "s0:1/0",
            "b2*1", "b9*1", "b12*1", "b99*1", "b0*0", "b0*00", "b0*31", "b0*99",
            "o2>0=1", "o99>0=1", "o0>6=1", "o0>9=1", "o0>0=0", "o0>0=91", "o0>0=99",
            "w6!0*1", "w0!2*1", "w0!0*0", "w0!0*25", "w0!0*99", "p2+1", "p0+0", "p0+31", "p0+99",
            "m6:1/1", "m0:0/1", "m0:31/1", "m0:1/0", "h6>0", "h0>6", "h9>9", "e6", "e9", "t0", "t00", "t25", "t99"};
        for (String text : texts) {
            CandleStatute x = Due.after(OrdersTest::makeRanged);
            String before = Due.pictureOf(x);
            x.share();
            Due.dueReasons(x, "11:2");
            Due.dueRefused(x, "out of range: " + text, Due.runText(x, text), "16:0");
            Due.dueRefused(x, "out of range: t1;" + text, Due.runText(x, "t1;" + text), "16:1");
            Due.dueText("unchanged", before, Due.pictureOf(x));
        }
    }

    /** Two stubs of house 3, and 30 in the stores of 0 and 5. */
    private static void makeRanged(CandleStatute x) {
        Scenes.fillStores(x);
        x.stub(3, 30, 1);
        x.stub(3, 28, 1);
    }

    private static void rangeAheadOfReasons() {
        String[] texts = {"s2:0/1", "s2:1/0", "m2:0/1", "m2:1/0", "m0:31/1", "b1*31", "b0*0", "o0>2=0", "o0>3=91",
            "o1>0=0", "w2!0*0", "w3!0*25", "w0!1*0", "p0+0", "p0+31", "o9>2=1", "w2!9*1"};
        for (String text : texts) {
            CandleStatute x = Due.after(OrdersTest::makeRanged);
            x.end(2);
            x.owe(1, 1, 5);
            x.writ(1, 1, 5);
            Due.dueRefused(x, "range ahead: " + text, Due.runText(x, text), "16:0");
        }
        CandleStatute x = new CandleStatute();
        Due.dueRefused(x, "the reason of an order ahead", Due.runText(x, "d;t99"), "16:0 11:0");
        Due.dueRefused(x, "the range of an order ahead", Due.runText(x, "t99;d"), "16:0");
    }

    private static void oneAfterTheOther() {
        CandleStatute x = new CandleStatute();
        Due.due("a stub that was just brought", 3, Due.runText(x, "s0:9/2;o0>1=5;b0*1"));
        Due.dueText("its numbers", "0 8 2 1 3 0 - 2", Due.stubOf(x, 0));
        Due.due("a pool that was just filled", 3, Due.runText(x, "p0+4;d;m0:1/9"));
        // claims 4 and 3 of 7, for 4: 2 2/7 and 1 5/7
        Due.dueText("stores", "1 2 0 0 0 0", Due.storesOf(x));
        Due.due("a writ that just ended", 3, Due.runText(x, "w2!0*9;t9;b0*1"));
        Due.due("an heir who was just told", 2, Due.runText(x, "h0>4;e0"));
        Due.due("who inherited", 4, x.stubOf(0, 0));
        Due.due("by hours and hours", 2, Due.runText(x, "t24;t24"));
        Due.due("hours", 57, x.account(11));
    }

    private static void allOrNone() {
        String[] texts = {"d;s0:5/5;p0+3;t5", "s0:5/5;d;p0+3;t5", "s0:5/5;p0+3;e0;e0",
            "p1+20;p1+7;p1+2", "p1+20;p1+8;p1+1"};
        String[] reasons = {"16:0 11:2", "16:1 11:3", "16:3 2:0", "16:2 10:1", "16:2"};
        for (int i = 0; i < texts.length; i++) {
            CandleStatute x = Due.after(OrdersTest::makeRanged);
            String before = Due.pictureOf(x);
            int changes = x.account(13);
            Due.dueRefused(x, texts[i], Due.runText(x, texts[i]), reasons[i]);
            Due.dueText("none of " + texts[i], before, Due.pictureOf(x));
            Due.due("changes", changes, x.account(13));
            Due.due("emptied", 0, x.account(12));
        }
    }

    private static void theNumberOfTheOrder() {
        StringBuilder text = new StringBuilder();
        for (int order = 0; order < 20; order++) {
            CandleStatute x = new CandleStatute();
            Due.dueRefused(x, "order " + order, Due.runText(x, text + "t0"), "16:" + order);
            Due.dueRefused(x, "order " + order, Due.runText(x, text + "d"), "16:" + order + " 11:0");
            Due.due("no hours", 0, x.account(11));
            text.append("t1;");
        }
    }

    private static void fullText() {
        CandleStatute x = new CandleStatute();
        String orders = "h0>0;h0>1;".repeat(6);
        Due.due("12 orders in 59 characters", 12, Due.runText(x, orders.substring(0, 59)));
        Due.writeText(x, orders);
        Due.due("no room for more", CandleStatute.FULL, x.append('t'));
        Due.due("too early at 60", -2060, x.run());
        Due.writeText(x, orders.substring(0, 58) + "0x");
        Due.due("the last place", -2059, x.run());
        Due.due("the first place", -2000, Due.runText(x, "x" + orders.substring(1)));
        Due.due("heir", 1, x.houseOf(0, 1));
    }
}
