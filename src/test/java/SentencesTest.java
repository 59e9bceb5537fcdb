import java.io.IOException;
import java.nio.file.Path;

/** Each sentence of the document that makes an answer due, with tests of its own; none is left out. */
public final class SentencesTest {
    public static void main(String[] args) throws IOException {
        Check check = new Check("SentencesTest");
        Sentences sentences = new Sentences(check);
        Section[] sections = {
            new FaceSection(sentences), new PeopleTerms(sentences), new IncidentTerms(sentences),
            new TextTerms(sentences), new ChangeTerms(sentences),
            new PeoplePromises(sentences), new IncidentPromises(sentences),
            new OutlookPromises(sentences), new TextPromises(sentences),
        };
        for (Section section : sections) {
            section.ask();
        }
        sentences.compareWith(Path.of("..", "shared", "DOC.md"));
        check.end();
    }
}
