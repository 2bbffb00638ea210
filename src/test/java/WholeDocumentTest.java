/** Each word of the terms and of the promises is quoted by a sentence's test: none was left out. */
public final class WholeDocumentTest {
    public static void main(String[] args) {
        Sentences s = new Sentences();
        Boundary0Test.all(s);
        Boundary1Test.all(s);
        Boundary2Test.all(s);
        Boundary3Test.all(s);
        Boundary4Test.all(s);
        s.needWholeDocument();
        s.end();
    }
}
