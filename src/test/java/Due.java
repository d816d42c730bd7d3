/** Counts the answers of a test that are not as due, and what several tests need to ask for them. */
final class Due {
    private static final int MOST_TOLD = 40;

    private static int asked = 0;
    private static int wrong = 0;

    private Due() {
    }

    /** A run of calls on an object. */
    interface Calls {
        void on(CandleStatute x);
    }

    /** One call, with its answer. */
    interface Call {
        int on(CandleStatute x);
    }

    static CandleStatute after(Calls calls) {
        CandleStatute x = new CandleStatute();
        calls.on(x);
        return x;
    }

    static void due(String call, long want, long got) {
        asked++;
        if (want != got) {
            tellWrong(call, String.valueOf(want), String.valueOf(got));
        }
    }

    static void dueReal(String call, double want, double got) {
        asked++;
        if (Double.compare(want, got) != 0) {
            tellWrong(call, String.valueOf(want), String.valueOf(got));
        }
    }

    static void dueText(String call, String want, String got) {
        asked++;
        if (!want.equals(got)) {
            tellWrong(call, want, got);
        }
    }

    /** The codes and details of the latest reason and of those behind it, as "16:1 4:0 5:3". */
    static void dueReasons(CandleStatute x, String want) {
        dueText("reasons", want, reasonsOf(x));
    }

    static void dueRefused(CandleStatute x, String call, long got, String reasons) {
        due(call, CandleStatute.REFUSED, got);
        dueReasons(x, reasons);
    }

    static int runText(CandleStatute x, String text) {
        writeText(x, text);
        return x.run();
    }

    static void writeText(CandleStatute x, String text) {
        for (int i = 0; i < text.length(); i++) {
            due("append to " + text, i + 1, x.append(text.charAt(i)));
        }
    }

    static String lineOf(CandleStatute x) {
        StringBuilder line = new StringBuilder();
        for (int index = 0; index < 200 && x.character(index) != CandleStatute.NONE; index++) {
            line.append((char) x.character(index));
        }
        return line.toString();
    }

    static String reasonsOf(CandleStatute x) {
        StringBuilder reasons = new StringBuilder();
        for (int depth = 0; depth < 3; depth++) {
            int code = x.reason(depth, false);
            int detail = x.reason(depth, true);
            if (code != CandleStatute.NOTHING || detail != CandleStatute.NOTHING) {
                reasons.append(depth == 0 ? "" : " ").append(code).append(':').append(detail);
            }
        }
        return reasons.toString();
    }

    /** The numbers of a house, from 0, its being open, to 7, the light that its stubs owe. */
    static String houseOf(CandleStatute x, int house) {
        StringBuilder numbers = new StringBuilder();
        for (int what = 0; what < 8; what++) {
            numbers.append(what == 0 ? "" : " ").append(x.houseOf(house, what));
        }
        return numbers.toString();
    }

    /** The numbers of a stub, from 0, its house, to 7, the light that it gave; "-" for NOTHING. */
    static String stubOf(CandleStatute x, int stub) {
        StringBuilder numbers = new StringBuilder();
        for (int what = 0; what < 8; what++) {
            int number = x.stubOf(stub, what);
            numbers.append(what == 0 ? "" : " ");
            numbers.append(number == CandleStatute.NOTHING ? "-" : String.valueOf(number));
        }
        return numbers.toString();
    }

    /** The wax of each stub, by which a test can tell them apart. */
    static String waxOf(CandleStatute x) {
        StringBuilder wax = new StringBuilder();
        int stubs = x.account(0);
        for (int stub = 0; stub < stubs; stub++) {
            wax.append(stub == 0 ? "" : " ").append(x.stubOf(stub, 1));
        }
        return wax.toString();
    }

    /** The stores of all houses. */
    static String storesOf(CandleStatute x) {
        StringBuilder stores = new StringBuilder();
        for (int house = 0; house < 6; house++) {
            stores.append(house == 0 ? "" : " ").append(x.houseOf(house, 2));
        }
        return stores.toString();
    }

    /** All that changes can change, as one text; it takes 61 calls, and 8 for each stub. */
    static String pictureOf(CandleStatute x) {
        StringBuilder picture = new StringBuilder();
        for (int what = 0; what < 12; what++) {
            picture.append(x.account(what)).append(' ');
        }
        for (int house = 0; house < 6; house++) {
            picture.append("| ").append(houseOf(x, house)).append(' ');
        }
        int stubs = x.account(0);
        for (int stub = 0; stub < stubs; stub++) {
            picture.append("/ ").append(stubOf(x, stub)).append(' ');
        }
        return picture.toString();
    }

    static void end(String test) {
        System.out.println(test + ": " + asked + " answers asked for, " + wrong + " not as due");
        if (wrong != 0) {
            System.exit(1);
        }
    }

    private static void tellWrong(String call, String want, String got) {
        wrong++;
        if (wrong <= MOST_TOLD) {
            StackTraceElement place = placeOfTest();
            System.out.println(place.getFileName() + ":" + place.getLineNumber() + " "
                    + place.getMethodName() + ": " + call + " answered " + got + ", due is " + want);
        }
    }

    private static StackTraceElement placeOfTest() {
        StackTraceElement[] places = new Throwable().getStackTrace();
        int first = 0;
        while (first < places.length - 1 && places[first].getClassName().equals("Due")) {
            first++;
        }
        return places[first];
    }
}
