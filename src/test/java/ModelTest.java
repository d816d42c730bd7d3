import java.util.Random;

/** Calls at random, with fixed seeds, each answer against the one of Model; 512 calls an object. */
public final class ModelTest {
    private static final String KINDS = "sbowpdmhet";
    private static final String SIGNS = "sbowpdmhet0123456789:/*>=!+;x ";

    private final Random random;
    private final int seed;
    private final CandleStatute x = new CandleStatute();
    private final Model model = new Model();
    private int calls = 0;

    private ModelTest(int seed) {
        this.seed = seed;
        this.random = new Random(seed);
    }

    public static void main(String[] args) {
        for (int seed = 0; seed < 4000; seed++) {
            new ModelTest(seed).callAll();
        }
        Due.end("ModelTest");
    }

    private void callAll() {
        int share = 2 + seed % 4;
        while (calls < 512 - 62) {
            int choice = random.nextInt(10);
            if (choice < share) {
                callChange();
            } else if (choice < 8) {
                callQuestion();
            } else if (random.nextInt(6) == 0) {
                callText();
            } else if (random.nextInt(4) == 0) {
                callPast();
            }
        }
    }

    private void due(String call, long want, long got) {
        calls++;
        Due.due("seed " + seed + ", call " + calls + ", " + call, want, got);
    }

    private int house() {
        return random.nextInt(30) == 0 ? random.nextInt(12) - 3 : random.nextInt(6);
    }

    private int stubNumber() {
        int stubs = model.account(0);
        return random.nextInt(30) == 0 || stubs == 0 ? random.nextInt(18) - 3 : random.nextInt(stubs);
    }

    private int upTo(int most) {
        if (random.nextInt(30) == 0) {
            return random.nextInt(3) == 0 ? random.nextInt() : random.nextInt(2) * (most + 1);
        }
        return 1 + random.nextInt(random.nextInt(3) == 0 ? most : Math.min(most, 9));
    }

    private char kind() {
        // houses that end are rare, so that there is something to do for long
        char kind = KINDS.charAt(random.nextInt(KINDS.length()));
        return kind == 'e' && random.nextInt(4) != 0 ? 's' : kind;
    }

    private void callChange() {
        char kind = kind();
        int house = house();
        int stub = stubNumber();
        switch (kind) {
            case 's', 'm' -> {
                int wax = upTo(30);
                int wick = upTo(9);
                due(kind + " " + house + " " + wax + " " + wick, model.change(kind, house, wax, wick),
                        kind == 's' ? x.stub(house, wax, wick) : x.mould(house, wax, wick));
            }
            case 'b' -> {
                int hours = upTo(30);
                due("burn " + stub + " " + hours, model.change('b', stub, hours, 0), x.burn(stub, hours));
            }
            case 'o' -> {
                int light = upTo(90);
                due("owe " + stub + " " + house + " " + light, model.change('o', stub, house, light),
                        x.owe(stub, house, light));
            }
            case 'w' -> {
                int hours = upTo(24);
                due("writ " + house + " " + stub + " " + hours, model.change('w', house, stub, hours),
                        x.writ(house, stub, hours));
            }
            case 'p' -> {
                int wax = upTo(30);
                due("pool " + stub + " " + wax, model.change('p', stub, wax, 0), x.pool(stub, wax));
            }
            case 'd' -> due("share", model.change('d', 0, 0, 0), x.share());
            case 'h' -> {
                int heir = house();
                due("heir " + house + " " + heir, model.change('h', house, heir, 0), x.heir(house, heir));
            }
            case 'e' -> due("end " + house, model.change('e', house, 0, 0), x.end(house));
            default -> {
                int hours = upTo(24);
                due("pass " + hours, model.change('t', hours, 0, 0), x.pass(hours));
            }
        }
    }

    private void callQuestion() {
        int house = house();
        int stub = stubNumber();
        int what = random.nextInt(17) - 1;
        switch (random.nextInt(18)) {
            case 0 -> due("stubOf " + stub + " " + what, model.stubOf(stub, what), x.stubOf(stub, what));
            case 1 -> due("part " + house, model.part(house), x.part(house));
            case 2 -> due("partAgain " + house, model.part(house), x.partAgain(house));
            case 3 -> due("houseOf " + house + " " + what, model.houseOf(house, what), x.houseOf(house, what));
            case 4 -> due("inherits " + house, model.inherits(house), x.inherits(house));
            case 5 -> due("wouldMelt " + house, model.wouldMelt(house), x.wouldMelt(house));
            case 6 -> due("weight " + house, model.weightOf(house), x.weight(house));
            case 7 -> due("weightAgain " + house, model.weightOf(house), x.weightAgain(house));
            case 8 -> due("ranked " + house, model.ranked(house), x.ranked(house));
            case 9 -> due("brightest " + stub, model.brightest(stub), x.brightest(stub));
            case 10 -> due("account " + what, model.account(what), x.account(what));
            case 11 -> due("isBalanced", 1, x.isBalanced());
            case 12 -> due("meanWax", Double.doubleToLongBits(model.meanWax()), Double.doubleToLongBits(x.meanWax()));
            case 13 -> due("snuffedShare", Float.floatToIntBits(model.snuffedShare()),
                    Float.floatToIntBits(x.snuffedShare()));
            case 14 -> due("tell " + stub, model.tell(stub), x.tell(stub));
            case 15 -> due("tellHouses", model.tellHouses(), x.tellHouses());
            case 16 -> due("character " + what, model.character(what), x.character(what));
            default -> callReasons();
        }
    }

    private void callReasons() {
        int depth = random.nextInt(5) - 1;
        boolean isDetail = random.nextBoolean();
        due("reason " + depth + " " + isDetail, model.reason(depth, isDetail), x.reason(depth, isDetail));
    }

    private void callPast() {
        switch (random.nextInt(6)) {
            case 0 -> due("save", model.save(), x.save());
            case 1 -> due("restore", model.restore(), x.restore());
            default -> due("undo", model.undo(), x.undo());
        }
    }

    private void callText() {
        StringBuilder text = new StringBuilder();
        int orders = 1 + random.nextInt(5);
        for (int order = 0; order < orders; order++) {
            text.append(order == 0 ? "" : ";").append(orderText());
        }
        if (random.nextInt(4) == 0) {
            int place = random.nextInt(text.length());
            char sign = SIGNS.charAt(random.nextInt(SIGNS.length()));
            switch (random.nextInt(3)) {
                case 0 -> text.setCharAt(place, sign);
                case 1 -> text.insert(place, sign);
                default -> text.setLength(place);
            }
        }
        for (int i = 0; i < text.length() && calls < 511; i++) {
            due("append", model.append(text.charAt(i)), x.append(text.charAt(i)));
        }
        due("run " + text, model.run(), x.run());
    }

    private String orderText() {
        int house = Math.floorMod(house(), 10);
        int heir = Math.floorMod(house(), 10);
        String stub = twoDigits(stubNumber());
        int wick = Math.floorMod(upTo(9), 10);
        return switch (kind()) {
            case 's' -> "s" + house + ":" + twoDigits(upTo(30)) + "/" + wick;
            case 'b' -> "b" + stub + "*" + twoDigits(upTo(30));
            case 'o' -> "o" + stub + ">" + house + "=" + twoDigits(upTo(90));
            case 'w' -> "w" + house + "!" + stub + "*" + twoDigits(upTo(24));
            case 'p' -> "p" + stub + "+" + twoDigits(upTo(30));
            case 'd' -> "d";
            case 'm' -> "m" + house + ":" + twoDigits(upTo(30)) + "/" + wick;
            case 'h' -> "h" + house + ">" + heir;
            case 'e' -> "e" + house;
            default -> "t" + twoDigits(upTo(24));
        };
    }

    private String twoDigits(int number) {
        int digits = Math.floorMod(number, 100);
        return (digits < 10 && random.nextInt(5) == 0 ? "0" : "") + digits;
    }
}
