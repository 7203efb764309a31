import java.io.IOException;

/** Each sentence of the document that names a boundary case, on both sides of it. */
final class SentencesTest {
    private SentencesTest() {
    }

    public static void main(String[] args) throws IOException {
        System.exit(wrongOnes() == 0 ? 0 : 1);
    }

    static int wrongOnes() throws IOException {
        Sentences s = new Sentences();
        new EdgesOfTexts(s).all();
        new EdgesOfTape(s).all();
        new EdgesOfDraws(s).all();
        new EdgesOfStage(s).all();
        new EdgesOfChances(s).all();
        new EdgesOfMachine(s).all();
        return s.finish();
    }
}
