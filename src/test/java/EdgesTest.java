import java.nio.file.Files;
import java.nio.file.Path;

/**
 * Every sentence of the document's Terms and promises, those that name a boundary case among them, with a test of
 * its own that names the promise or the part of "Terms" it stands in. args[1] is the document: no word may be left
 * out. No object is used here for more than the 512 calls that the document speaks of.
 */
public final class EdgesTest {
    public static void main(String[] args) throws Exception {
        Terms1Edges.all();
        Terms2Edges.all();
        Terms3Edges.all();
        Terms4Edges.all();
        Promises1To12Edges.all();
        Promises13To24Edges.all();
        if (args.length > 1 && Files.exists(Path.of(args[1]))) {
            Sentences.compareWith(Files.readString(Path.of(args[1])));
        } else {
            System.out.println("the document was not found: the quotes are not compared with it");
        }
        System.out.println(Sentences.count() + " sentences of the document were looked at");
        Check.finish("EdgesTest");
    }
}
