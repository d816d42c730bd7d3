/** "Terms", the paragraph Changes, and promises 32 to 34 on it: undo, save, restore. */
public final class ChangesTest {
    private static final int NOTHING = CandleStatute.NOTHING;
    private static final int KINDS = 11;
    private static final int STEPS = 14;

    public static void main(String[] args) {
        eachKindIsAChange();
        nothingDifferent();
        theLatestEight();
        theNinth();
        undoneAndChangedAnew();
        undoneByTurns();
        noChanges();
        theSnapshotHasAll();
        theSnapshotStays();
        inPlaceOfAnEarlierOne();
        anEmptySnapshot();
        aFullSnapshot();
        nothingCanBeUndoneThen();
        whatIsNeitherUndoneNorSaved();
        Due.end("ChangesTest");
    }

    private static void eachKindIsAChange() {
        for (int kind = 0; kind < KINDS; kind++) {
            CandleStatute x = Due.after(ChangesTest::begin);
            String before = Due.pictureOf(x);
            int changes = x.account(13);
            Due.due("kind " + kind, 1, change(x, kind) >= 0 ? 1 : 0);
            Due.due("one more can be undone", changes + 1, x.account(13));
            Due.due("it is different", 0, before.equals(Due.pictureOf(x)) ? 1 : 0);
            Due.due("undo", changes, x.undo());
            Due.due("it can be undone no more", changes, x.account(13));
            Due.dueText("undone", before, Due.pictureOf(x));
        }
    }

    /** Five changes, after which each kind of change can be made. */
    private static void begin(CandleStatute x) {
        x.stub(0, 30, 3);
        x.stub(1, 20, 2);
        x.pool(0, 10);
        x.share();
        x.pool(1, 5);
    }

    private static int change(CandleStatute x, int kind) {
        switch (kind) {
            case 0: return x.stub(2, 5, 5);
            case 1: return x.burn(0, 4);
            case 2: return x.owe(0, 1, 40);
            case 3: return x.writ(0, 1, 24);
            case 4: return x.pool(0, 7);
            case 5: return x.share();
            case 6: return x.mould(0, 6, 2);
            case 7: return x.heir(0, 3);
            case 8: return x.end(0);
            case 9: return x.pass(2);
            default: return Due.runText(x, "t1;p0+1;e1");
        }
    }

    private static void nothingDifferent() {
        CandleStatute x = new CandleStatute();
        x.stub(0, 9, 1);
        String before = Due.pictureOf(x);
        Due.due("there and back", 2, Due.runText(x, "h0>2;h0>1"));
        Due.dueText("nothing is different", before, Due.pictureOf(x));
        Due.due("a change all the same", 2, x.account(13));
        Due.due("undo it", 1, x.undo());
        Due.dueText("nothing is different", before, Due.pictureOf(x));
        Due.due("undo the stub", 0, x.undo());
        Due.due("stubs", 0, x.account(0));
    }

    /** Of all numbers of steps, all numbers of steps back. */
    private static void theLatestEight() {
        for (int steps = 1; steps <= STEPS; steps++) {
            for (int back = 1; back <= Math.min(steps, 8); back++) {
                CandleStatute x = new CandleStatute();
                step(x, 0, steps);
                Due.due("can be undone", Math.min(steps, 8), x.account(13));
                for (int i = 1; i <= back; i++) {
                    Due.due("can still be undone", Math.min(steps, 8) - i, x.undo());
                }
                CandleStatute y = new CandleStatute();
                step(y, 0, steps - back);
                Due.dueText(steps + " steps, " + back + " back", Due.pictureOf(y), Due.pictureOf(x));
            }
        }
    }

    private static void step(CandleStatute x, int from, int to) {
        for (int i = from; i < to; i++) {
            Due.due("step " + i, 1, stepOnce(x, i) >= 0 ? 1 : 0);
        }
    }

    private static int stepOnce(CandleStatute x, int step) {
        switch (step) {
            case 0: return x.stub(0, 30, 3);
            case 1: return x.stub(1, 29, 2);
            case 2: return x.owe(0, 1, 40);
            case 3: return x.pool(0, 9);
            case 4: return x.writ(2, 1, 5);
            case 5: return x.share();
            case 6: return x.burn(0, 3);
            case 7: return x.heir(1, 5);
            case 8: return x.pass(2);
            case 9: return x.mould(1, 2, 2);
            case 10: return x.end(2);
            case 11: return Due.runText(x, "b0*2;t1");
            case 12: return x.pool(0, 16);
            default: return x.end(1);
        }
    }

    private static void theNinth() {
        for (int steps = 8; steps <= STEPS; steps++) {
            CandleStatute x = new CandleStatute();
            step(x, 0, steps);
            for (int i = 0; i < 8; i++) {
                x.undo();
            }
            CandleStatute y = new CandleStatute();
            step(y, 0, steps - 8);
            Due.due("the ninth", NOTHING, x.undo());
            Due.due("none can be undone", 0, x.account(13));
            Due.dueText("as before it", Due.pictureOf(y), Due.pictureOf(x));
            Due.due("and again", NOTHING, x.undo());
            step(x, steps - 8, steps);
            step(y, steps - 8, steps);
            Due.dueText("the same steps anew", Due.pictureOf(y), Due.pictureOf(x));
        }
    }

    private static void undoneAndChangedAnew() {
        for (int back = 1; back <= 8; back++) {
            CandleStatute x = new CandleStatute();
            for (int i = 0; i < 10; i++) {
                x.pass(1);
            }
            for (int i = 0; i < back; i++) {
                x.undo();
            }
            for (int i = 1; i < 12; i++) {
                x.pass(2);
                Due.due("can be undone", Math.min(8 - back + i, 8), x.account(13));
            }
            for (int i = 1; i < 9; i++) {
                Due.due("undo", 8 - i, x.undo());
                Due.due("hours", 10 - back + 22 - 2 * i, x.account(11));
            }
            Due.due("no more", NOTHING, x.undo());
        }
    }

    private static void undoneByTurns() {
        CandleStatute x = new CandleStatute();
        int hours = 0;
        for (int i = 0; i < 30; i++) {
            x.pass(1);
            x.pass(3);
            x.pass(5);
            Due.due("undo", Math.min(2 * i + 3, 8) - 1, x.undo());
            hours += 4;
            Due.due("hours", hours, x.account(11));
            if (i % 3 == 2) {
                x.undo();
                hours -= 3;
                x.heir(0, i % 2 == 0 ? 2 : 3);
                Due.due("hours", hours, x.account(11));
            }
        }
    }

    private static void noChanges() {
        CandleStatute x = new CandleStatute();
        step(x, 0, 9);
        for (int i = 0; i < 10; i++) {
            x.save();
            x.append('t');
            x.tell(0);
            x.tellHouses();
            x.burn(0, 30);
            x.share();
            x.stub(6, 1, 1);
            x.pass(0);
            x.run();
            Due.runText(x, "t1;t0");
            x.wouldMelt(1);
            x.isBalanced();
            Due.due("can be undone", 8, x.account(13));
        }
        for (int i = 1; i < 9; i++) {
            Due.due("undo", 8 - i, x.undo());
        }
        CandleStatute y = new CandleStatute();
        step(y, 0, 1);
        Due.dueText("after the first step", Due.pictureOf(y), Due.pictureOf(x));
    }

    private static void theSnapshotHasAll() {
        for (int kind = 0; kind < KINDS; kind++) {
            CandleStatute x = Due.after(ChangesTest::begin);
            String before = Due.pictureOf(x);
            Due.due("save", 2, x.save());
            change(x, kind);
            Due.due("restore", 2, x.restore());
            Due.dueText("restored", before, Due.pictureOf(x));
            Due.due("the same once more", 1, change(x, kind) >= 0 ? 1 : 0);
            Due.due("undo", 0, x.undo());
            Due.dueText("undone", before, Due.pictureOf(x));
        }
    }

    private static void theSnapshotStays() {
        CandleStatute x = new CandleStatute();
        step(x, 0, 8);
        String before = Due.pictureOf(x);
        x.save();
        step(x, 8, STEPS);
        x.restore();
        Due.dueText("restored", before, Due.pictureOf(x));
        step(x, 8, STEPS);
        x.restore();
        Due.dueText("restored once more", before, Due.pictureOf(x));
        step(x, 8, 10);
        x.undo();
        x.undo();
        x.restore();
        Due.dueText("also after undo", before, Due.pictureOf(x));
    }

    private static void inPlaceOfAnEarlierOne() {
        CandleStatute x = new CandleStatute();
        x.stub(0, 9, 1);
        Due.due("the earlier one", 1, x.save());
        x.stub(1, 8, 1);
        x.stub(2, 7, 1);
        Due.due("the later one", 3, x.save());
        x.burn(2, 7);
        Due.due("restore", 3, x.restore());
        Due.dueText("wax", "9 8 7", Due.waxOf(x));
        x.burn(0, 9);
        Due.due("with fewer stubs", 2, x.save());
        x.stub(0, 6, 1);
        Due.due("restore", 2, x.restore());
        Due.dueText("wax", "8 7", Due.waxOf(x));
        Due.due("stubs", 2, x.account(0));
    }

    private static void anEmptySnapshot() {
        CandleStatute x = new CandleStatute();
        String before = Due.pictureOf(x);
        Due.due("no snapshot", NOTHING, x.restore());
        step(x, 0, 2);
        Due.due("no snapshot", NOTHING, x.restore());
        Due.due("no snapshot leaves what can be undone", 2, x.account(13));
        x.undo();
        x.undo();
        Due.due("save", 0, x.save());
        step(x, 0, STEPS);
        Due.due("restore", 0, x.restore());
        Due.dueText("as at first", before, Due.pictureOf(x));
    }

    private static void aFullSnapshot() {
        CandleStatute x = new CandleStatute();
        for (int i = 0; i < 12; i++) {
            x.stub(i % 6, 1 + i, 1);
        }
        Due.due("save", 12, x.save());
        for (int i = 11; i >= 0; i--) {
            x.pool(i, 1 + i);
        }
        Due.due("all are gone", 0, x.account(0));
        Due.due("restore", 12, x.restore());
        Due.dueText("wax", "1 2 3 4 5 6 7 8 9 10 11 12", Due.waxOf(x));
        Due.dueRefused(x, "a thirteenth", x.stub(0, 1, 1), "1:12");
    }

    private static void nothingCanBeUndoneThen() {
        CandleStatute x = new CandleStatute();
        step(x, 0, 3);
        x.save();
        step(x, 3, 12);
        Due.due("8 can be undone", 8, x.account(13));
        x.restore();
        Due.due("none can be undone", 0, x.account(13));
        Due.due("undo", NOTHING, x.undo());
        Due.due("restored all the same", 40, x.stubOf(0, 4));
        x.pass(3);
        x.pass(4);
        Due.due("undo", 1, x.undo());
        Due.due("undo", 0, x.undo());
        Due.due("undo", NOTHING, x.undo());
        Due.due("hours", 0, x.account(11));
        Due.due("not what was before", 40, x.stubOf(0, 4));
    }

    private static void whatIsNeitherUndoneNorSaved() {
        CandleStatute x = new CandleStatute();
        x.stub(0, 9, 1);
        x.save();
        x.stub(1, 8, 1);
        x.tell(1);
        x.burn(1, 9);
        Due.writeText(x, "t1");
        x.undo();
        dueStayed(x, "undone");
        x.restore();
        dueStayed(x, "restored");
        x.save();
        dueStayed(x, "saved");
        Due.due("run", 1, x.run());
        x.undo();
        Due.due("the text is not brought back", 0, x.account(12));
        x.restore();
        Due.due("the text is not brought back", 0, x.account(12));
    }

    private static void dueStayed(CandleStatute x, String when) {
        Due.dueText(when + ", the line", "1@1:8/1", Due.lineOf(x));
        Due.due(when + ", the text", 2, x.account(12));
        Due.dueReasons(x, "4:1 6:8");
    }
}
