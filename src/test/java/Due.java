/** Counts the answers of a test that are not as due, and what several tests need to ask for them. */
final class Due {
    private static int asked = 0;
    private static int wrong = 0;

    private Due() {
    }

    static void due(String call, long want, long got) {
        asked++;
        if (want != got) {
            tellWrong(call, String.valueOf(want), String.valueOf(got));
        }
    }

    static void dueReal(String call, double want, double got) {
        asked++;
        if (Double.compare(want, got) != 0) {
            tellWrong(call, String.valueOf(want), String.valueOf(got));
        }
    }

    static void dueText(String call, String want, String got) {
        asked++;
        if (!want.equals(got)) {
            tellWrong(call, want, got);
        }
    }

    /** The codes and details of the latest reason and of those behind it, as "16:1 4:0 5:3". */
    static void dueReasons(CandleStatute x, String want) {
        StringBuilder got = new StringBuilder();
        for (int depth = 0; depth < 3; depth++) {
            int code = x.reason(depth, false);
            int detail = x.reason(depth, true);
            if (code != CandleStatute.NOTHING || detail != CandleStatute.NOTHING) {
                got.append(depth == 0 ? "" : " ").append(code).append(':').append(detail);
            }
        }
        dueText("reasons", want, got.toString());
    }

    static void dueRefused(CandleStatute x, String call, long got, String reasons) {
        due(call, CandleStatute.REFUSED, got);
        dueReasons(x, reasons);
    }

    static int runText(CandleStatute x, String text) {
        writeText(x, text);
        return x.run();
    }

    static void writeText(CandleStatute x, String text) {
        for (int i = 0; i < text.length(); i++) {
            due("append to " + text, i + 1, x.append(text.charAt(i)));
        }
    }

    static String lineOf(CandleStatute x) {
        StringBuilder line = new StringBuilder();
        for (int index = 0; x.character(index) != CandleStatute.NONE; index++) {
            line.append((char) x.character(index));
        }
        return line.toString();
    }

    /** All that changes can change, as one text; it takes some 100 calls. */
    static String pictureOf(CandleStatute x) {
        StringBuilder picture = new StringBuilder();
        for (int what = 0; what < 12; what++) {
            picture.append(x.account(what)).append(' ');
        }
        for (int house = 0; house < 6; house++) {
            for (int what = 0; what < 8; what++) {
                picture.append(what == 0 ? "| " : "").append(x.houseOf(house, what)).append(' ');
            }
        }
        for (int stub = 0; stub < x.account(0); stub++) {
            for (int what = 0; what < 8; what++) {
                picture.append(what == 0 ? "/ " : "").append(x.stubOf(stub, what)).append(' ');
            }
        }
        return picture.toString();
    }

    static void end(String test) {
        System.out.println(test + ": " + asked + " answers asked for, " + wrong + " not as due");
        if (wrong != 0) {
            System.exit(1);
        }
    }

    private static void tellWrong(String call, String want, String got) {
        wrong++;
        if (wrong <= 40) {
            StackTraceElement place = new Throwable().getStackTrace()[2];
            System.out.println(place.getFileName() + ":" + place.getLineNumber() + " "
                    + place.getMethodName() + ": " + call + " answered " + got + ", due is " + want);
        }
    }
}
