import java.io.IOException;

/**
 * The document sentence by sentence: each that names a boundary case has a test of its own here, by its
 * promise and its words. Words of the document that no test names are told, and fail the run.
 */
public final class SentencesTest {
    public static void main(String[] args) throws IOException {
        Told told = new Told();
        new SentencesOfTheCard(told).all();
        new SentencesOfCommands(told).all();
        new SentencesOfTheLock(told).all();
        new SentencesOfContents(told).all();
        new SentencesOfPromises(told).all();
        if (args.length > 0) {
            told.names();
        }
        told.end();
    }
}
