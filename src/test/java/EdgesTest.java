import java.io.IOException;
import java.nio.file.Files;
import java.nio.file.Path;

/**
 * Promises 1 to 43, sentence by sentence: each one that names a boundary case has a test of its own.
 * The argument is the document's path: the sentences are compared with those that stand there.
 */
public final class EdgesTest {
    public static void main(String[] args) throws IOException {
        Sentences says = new Sentences();
        WholeEdges.all(says);
        CardEdges.all(says);
        PickEdges.all(says);
        LetterEdges.all(says);
        PlanEdges.all(says);
        FaultEdges.all(says);
        MendingEdges.all(says);
        OrderEdges.all(says);
        SumEdges.all(says);
        if (args.length > 0 && Files.isReadable(Path.of(args[0]))) {
            says.compareWith(Path.of(args[0]));
        } else {
            System.out.println("EdgesTest: no document to compare the sentences with");
        }
        says.end();
    }
}
