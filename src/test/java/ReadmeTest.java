/** The calls that README.md shows, in their order and with the answers that it tells. */
public final class ReadmeTest {
    public static void main(String[] args) {
        CandleStatute statute = new CandleStatute();
        stubs(statute);
        reasons(statute);
        texts(statute);
        lines(statute);
        Due.end("ReadmeTest");
    }

    private static void stubs(CandleStatute statute) {
        Due.due("stub", 0, statute.stub(0, 12, 4));
        Due.due("owe", 30, statute.owe(0, 1, 30));
        Due.due("burn", 20, statute.burn(0, 5));
        Due.due("undo", 2, statute.undo());
    }

    private static void reasons(CandleStatute statute) {
        Due.dueRefused(statute, "burn", statute.burn(0, 13), "4:0 6:12");
    }

    private static void texts(CandleStatute statute) {
        int changes = statute.account(13);
        Due.due("run", 3, Due.runText(statute, "p0+2;d;b0*5"));
        Due.due("one change", changes + 1, statute.account(13));
    }

    private static void lines(CandleStatute statute) {
        Due.due("tell", 12, statute.tell(0));
        Due.due("character", '@', statute.character(1));
        Due.dueText("line", "0@0:5/4>1=10", Due.lineOf(statute));
    }
}
