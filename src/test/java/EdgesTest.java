import java.io.IOException;
import java.nio.file.Files;
import java.nio.file.Path;

/** For each sentence of the document that names an edge a test of its own, by the sentence's own words. */
public final class EdgesTest {
    public static void main(String[] args) throws IOException {
        Due d = new Due();
        Edges e = new Edges(d, Files.readString(Path.of("../shared/DOC.md")));
        new EdgesOfPiles(e).test();
        new EdgesOfGames(e).test();
        new EdgesOfWins(e).test();
        new EdgesOfHeaps(e).test();
        new EdgesOfWorths(e).test();
        new EdgesOfHeirs(e).test();
        new EdgesOfChanges(e).test();
        new EdgesOfKept(e).test();
        e.finish();
        d.close("EdgesTest");
    }
}
