/** The three examples of the document, word for word. */
final class ExamplesTest {
    public static void main(String[] args) {
        new Script("example 1").due("""
            make(0, 4) = 0; set(1, 300) = 300; store(0, 1, 2) = 0; at(0, 0) = 44; at(0, 1)
            = 1; load(2, 0, 2) = 1; move(0, 2) = 2; store(0, 0, 2) = 2; move(0, 1) = 3; set(1, 7) = 7; store(0, 1, 1) = 3;
            at(0, 2) = -1; load(3, 0, 2) = -15; undefined(5) = 1; move(0, -3) = 0; freeze(0) = 0.
            """.replace(".", ""));
        new Script("example 2").due("""
            type(115) = 1; type(49) = 2; type(32) = 3; type(50) = 4; type(59) = 5; type(118) = 6;
            type(49) = 7; type(45) = 8; type(49) = 9; type(59) = 10; type(106) = 11; type(49) = 12; type(32) = 13; type(49) =
            14; type(59) = 15; does() = 5
            """);
        new Script("example 3").due("""
            type(101) = 1; type(48) = 2; does() = -12; load(0, 0, 3) = -2; move(0, 1)
            = -11; count(7) = 1; count(4) = 1; back() = -3; like(0) = -2; forget(2) = 0; budget(1) = 40; register(2, 1) = -1;
            back() = 1; count(9) = 1; imaged(0, 0, 0) = -2; compare(0, 1) = -11
            """);
        Script.end();
    }
}
