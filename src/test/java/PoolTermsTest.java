/** "Terms", the paragraphs The pool and Moulding, and the sentence ahead of all, sentence by sentence. */
public final class PoolTermsTest {
    private static final int NONE = CandleStatute.NONE;

    public static void main(String[] args) {
        justEnoughAndTooLittle();
        whatItsStubsGave();
        sinceThePoolWasShared();
        theClaim();
        anEndedHouseHasNoClaim();
        eachItsOwn();
        lightAlone();
        equalRemainders();
        greatestRemainders();
        nothingIsLeft();
        fiveAreLeft();
        manyClaims();
        intoTheStore();
        allPooledWaxIs0();
        theGreatestPool();
        justEnoughInTheStore();
        nothingForTheWick();
        mouldedIsNotBrought();
        Due.end("PoolTermsTest");
    }

    private static void justEnoughAndTooLittle() {
        CandleStatute x = new CandleStatute();
        x.stub(0, 7, 1);
        x.stub(1, 30, 1);
        Due.dueRefused(x, "one too many", x.pool(0, 8), "10:7");
        Due.due("all but one", 6, x.pool(0, 6));
        Due.due("one is left", 1, x.stubOf(0, 1));
        Due.dueRefused(x, "one too many", x.pool(0, 2), "10:1");
        Due.due("all", 7, x.pool(0, 1));
        Due.dueText("gone", "30", Due.waxOf(x));
        Due.due("the most", 37, x.pool(0, 30));
        Due.due("gone", NONE, x.pool(0, 1));
    }

    private static void whatItsStubsGave() {
        CandleStatute x = new CandleStatute();
        x.stub(3, 10, 1);
        x.stub(4, 10, 1);
        x.stub(3, 10, 1);
        x.pool(0, 2);
        x.pool(1, 3);
        Due.due("how much is in the pool then", 9, x.pool(2, 4));
        Due.due("of both its stubs", 6, x.houseOf(3, 3));
        Due.due("of its stub", 3, x.houseOf(4, 3));
        Due.due("of none", 0, x.houseOf(0, 3));
        x.pool(0, 8);
        Due.due("also of one that is gone", 14, x.houseOf(3, 3));
        Due.due("the pool", 17, x.account(5));
        Due.due("no light was given", 0, x.account(8));
    }

    private static void sinceThePoolWasShared() {
        CandleStatute x = new CandleStatute();
        x.stub(3, 10, 1);
        x.pool(0, 4);
        x.share();
        Due.due("none since", 0, x.houseOf(3, 3));
        Due.due("anew", 2, x.pool(0, 2));
        Due.due("since", 2, x.houseOf(3, 3));
    }

    private static void theClaim() {
        CandleStatute x = new CandleStatute();
        x.stub(0, 10, 1);
        x.stub(1, 10, 1);
        x.stub(2, 10, 1);
        Due.due("at first", 0, x.houseOf(0, 4));
        x.pool(0, 3);
        Due.due("pooled wax", 3, x.houseOf(0, 4));
        x.owe(1, 0, 5);
        Due.due("and light", 8, x.houseOf(0, 4));
        x.owe(2, 0, 90);
        Due.due("of all stubs that owe it", 98, x.houseOf(0, 4));
        x.burn(1, 2);
        Due.due("less what was paid", 96, x.houseOf(0, 4));
        x.owe(0, 5, 7);
        Due.due("not what its own stubs owe", 96, x.houseOf(0, 4));
        Due.due("light alone", 7, x.houseOf(5, 4));
        x.share();
        Due.due("the light is not shared", 93, x.houseOf(0, 4));
    }

    private static void anEndedHouseHasNoClaim() {
        CandleStatute x = new CandleStatute();
        x.stub(2, 10, 1);
        x.stub(4, 10, 1);
        x.pool(0, 3);
        x.owe(1, 2, 9);
        x.end(2);
        Due.due("claim", 0, x.houseOf(2, 4));
        Due.due("part", 0, x.part(2));
        Due.due("partAgain", 0, x.partAgain(2));
        Due.due("the claim of its heir", 12, x.houseOf(3, 4));
        Due.due("the part of its heir", 3, x.part(3));
        Due.due("one house gets it", 1, x.share());
        Due.due("the store of the heir", 3, x.houseOf(3, 2));
        Due.due("the store of the ended one", 0, x.houseOf(2, 2));
    }

    private static void eachItsOwn() {
        duePool("5 2 1 0 0 0", "0 0 0 0 0 0", "5 2 1 0 0 0", 3);
        duePool("0 0 0 0 0 1", "0 0 0 0 0 0", "0 0 0 0 0 1", 1);
        duePool("4 3 2 3 4 29", "0 0 0 0 0 0", "4 3 2 3 4 29", 6);
    }

    private static void lightAlone() {
        // claims 90, 3, 90 of 183 for 3 of wax: 1 87/183, 9/183, 1 87/183
        duePool("0 0 3 0 0 0", "90 0 0 0 0 90", "2 0 0 0 0 1", 2);
    }

    private static void equalRemainders() {
        // claims 1, 1 of 2
        duePool("1 0 0 0 0 0", "0 0 0 0 0 1", "1 0 0 0 0 0", 1);
        duePool("0 0 0 0 0 1", "0 0 0 0 1 0", "0 0 0 0 1 0", 1);
        // claims 10 each of 30, for 10: 3 10/30 each
        duePool("10 0 0 0 0 0", "0 10 10 0 0 0", "4 3 3 0 0 0", 3);
        // claims 11 each of 33, for 11: 3 22/33 each
        duePool("0 11 0 0 0 0", "11 0 11 0 0 0", "4 4 3 0 0 0", 3);
    }

    private static void greatestRemainders() {
        // claims 1 and 2 of 3, for 1: 1/3 and 2/3
        duePool("1 0 0 0 0 0", "0 0 0 0 0 2", "0 0 0 0 0 1", 1);
        // claims 3, 4, 3 of 10, for 3: 9/10, 1 2/10, 9/10
        duePool("3 0 0 0 0 0", "0 4 3 0 0 0", "1 1 1 0 0 0", 3);
        // claims 2, 3, 3 of 8, for 2: 4/8, 6/8, 6/8
        duePool("2 0 0 0 0 0", "0 3 3 0 0 0", "0 1 1 0 0 0", 2);
    }

    private static void nothingIsLeft() {
        // claims 4 and 4 of 8, for 4: 2 and 2, and no remainder
        duePool("4 0 0 0 0 0", "0 4 0 0 0 0", "2 2 0 0 0 0", 2);
        // claims 6, 2, 4 of 12, for 6: 3, 1, 2
        duePool("6 0 0 0 0 0", "0 0 2 0 4 0", "3 0 1 0 2 0", 3);
    }

    private static void fiveAreLeft() {
        // claims 5 each of 30, for 5: 25/30 each; the house that pooled it gets none
        duePool("0 0 0 0 0 5", "5 5 5 5 5 0", "1 1 1 1 1 0", 5);
    }

    private static void manyClaims() {
        // claims 119, 30, 119, 31, 119, 32 of 450, for 174:
        // 46 6/450, 11 270/450, 46 6/450, 11 444/450, 46 6/450, 12 168/450
        duePool("29 29 29 29 29 29", "90 1 90 2 90 3", "46 12 46 12 46 12", 6);
        duePool("29 29 29 29 29 29", "90 90 90 90 90 90", "29 29 29 29 29 29", 6);
    }

    /** Each house has a stub, which pools wax, and owes light to the next house. */
    private static void duePool(String wax, String light, String parts, int served) {
        int[] pooled = numbersOf(wax);
        int[] owed = numbersOf(light);
        int[] due = numbersOf(parts);
        CandleStatute x = new CandleStatute();
        int pool = 0;
        for (int house = 0; house < 6; house++) {
            x.stub(house, 30, 1);
            int next = (house + 1) % 6;
            if (owed[next] > 0) {
                x.owe(house, next, owed[next]);
            }
            if (pooled[house] > 0) {
                x.pool(house, pooled[house]);
            }
            pool += pooled[house];
        }
        Due.due("the pool", pool, x.account(5));
        for (int house = 0; house < 6; house++) {
            Due.due("claim of " + house, pooled[house] + owed[house], x.houseOf(house, 4));
            Due.due("part of " + house, due[house], x.part(house));
            Due.due("partAgain of " + house, due[house], x.partAgain(house));
        }
        Due.due("isBalanced", 1, x.isBalanced());
        Due.due("asking shares nothing", pool, x.account(5));
        Due.due("how many houses get wax", served, x.share());
        Due.dueText("stores", parts, Due.storesOf(x));
        Due.due("the pool", 0, x.account(5));
        Due.due("isBalanced", 1, x.isBalanced());
    }

    private static int[] numbersOf(String numbers) {
        String[] words = numbers.split(" ");
        int[] all = new int[words.length];
        for (int i = 0; i < words.length; i++) {
            all[i] = Integer.parseInt(words[i]);
        }
        return all;
    }

    private static void intoTheStore() {
        CandleStatute x = new CandleStatute();
        x.stub(0, 30, 1);
        x.owe(0, 1, 90);
        x.pool(0, 10);
        // claims 10 and 90 of 100
        Due.due("share", 2, x.share());
        Due.dueText("stores", "1 9 0 0 0 0", Due.storesOf(x));
        x.pool(0, 10);
        Due.due("share", 2, x.share());
        Due.dueText("added to what is there", "2 18 0 0 0 0", Due.storesOf(x));
        Due.due("all stores", 20, x.account(4));
    }

    private static void allPooledWaxIs0() {
        CandleStatute x = new CandleStatute();
        for (int house = 0; house < 6; house++) {
            x.stub(house, 10, 1);
            x.pool(house, 1 + house);
        }
        Due.due("share", 6, x.share());
        for (int house = 0; house < 6; house++) {
            Due.due("pooled wax of " + house, 0, x.houseOf(house, 3));
            Due.due("part of " + house, 0, x.part(house));
            Due.due("partAgain of " + house, 0, x.partAgain(house));
        }
        Due.dueRefused(x, "nothing to share", x.share(), "11:6");
    }

    /** As much as 480 calls can pool. */
    private static void theGreatestPool() {
        CandleStatute x = new CandleStatute();
        x.stub(1, 30, 1);
        x.owe(0, 2, 90);
        for (int i = 0; i < 240; i++) {
            x.stub(0, 30, 1);
            x.pool(1, 30);
        }
        // claims 7200 and 90 of 7290, for 7200: 7111 810/7290 and 88 6480/7290
        Due.due("part", 7111, x.part(0));
        Due.due("partAgain", 7111, x.partAgain(0));
        Due.due("part", 89, x.part(2));
        Due.due("partAgain", 89, x.partAgain(2));
        Due.due("isBalanced", 1, x.isBalanced());
        Due.due("share", 2, x.share());
        Due.dueText("stores", "7111 0 89 0 0 0", Due.storesOf(x));
    }

    private static void justEnoughInTheStore() {
        CandleStatute x = new CandleStatute();
        x.stub(0, 30, 1);
        x.pool(0, 8);
        x.share();
        Due.dueRefused(x, "one too many", x.mould(0, 9, 1), "13:8");
        Due.due("one less", 1, x.mould(0, 7, 1));
        Due.due("one is left", 1, x.houseOf(0, 2));
        Due.dueRefused(x, "one too many", x.mould(0, 2, 1), "13:1");
        Due.due("just enough", 2, x.mould(0, 1, 1));
        Due.due("none is left", 0, x.houseOf(0, 2));
        Due.dueRefused(x, "an empty store", x.mould(0, 1, 1), "13:0");
        Due.dueText("wax", "22 7 1", Due.waxOf(x));
    }

    private static void nothingForTheWick() {
        CandleStatute x = new CandleStatute();
        x.stub(5, 30, 1);
        x.pool(0, 30);
        x.share();
        Due.due("all of the store", 0, x.mould(5, 30, 9));
        Due.dueText("the stub", "5 30 9 - 0 0 - 0", Due.stubOf(x, 0));
        Due.due("the store", 0, x.houseOf(5, 2));
        Due.due("the wick weighs", 31, x.weight(5));
        Due.due("isBalanced", 1, x.isBalanced());
    }

    private static void mouldedIsNotBrought() {
        CandleStatute x = new CandleStatute();
        x.stub(5, 30, 1);
        x.pool(0, 20);
        x.share();
        x.mould(5, 15, 9);
        Due.due("brought", 30, x.account(6));
        Due.due("in stubs", 25, x.account(3));
        Due.due("in stores", 5, x.account(4));
        Due.due("burnt", 0, x.account(7));
    }
}
