import java.io.IOException;

/**
 * Every sentence of the document that names a boundary case, by its words: inputs just inside of the boundary and
 * just outside of it, and that refused calls change nothing.
 */
public final class EdgeTest {
    public static void main(String[] args) throws IOException {
        Due due = new Due();
        Book book = new Book(due);
        new StoryEdges(book).run();
        new BufferAndIdEdges(book).run();
        new KeyEdges(book).run();
        new EntryEdges(book).run();
        new AgentEdges(book).run();
        new ResponseEdges(book).run();
        new CertificateEdges(book).run();
        new VerifyEdges(book).run();
        new RefusalEdges(book).run();
        book.end();
        due.end();
    }
}
