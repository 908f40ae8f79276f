import java.io.IOException;
import java.nio.file.Path;

/**
 * Every sentence of what the class is, the document's terms and promises, with runs of calls just inside the edges that it
 * names, at them and just beyond them. It fails too if the document has a sentence that none of them is for.
 */
public final class EdgesTest {
    public static void main(String[] args) throws IOException {
        Edges e = new Edges(new Document(Path.of(args.length < 2 ? "../shared/DOC.md" : args[1])));
        new TermsEdges(e).all();
        new InstructionEdges(e).all();
        new QuestionEdges(e).all();
        new CompileEdges(e).all();
        new UnchangedEdges(e).all();
        new TableEdges(e).all();
        new ProgramEdges(e).all();
        new RunEdges(e).all();
        e.end();
    }
}
