/** Promises 14 to 21: the queries. */
final class QueriesTest {
    public static void main(String[] args) {
        register();
        piece();
        at();
        image();
        imageAfterLike();
        imaged();
        like();
        count();
        undefined();
        Script.end();
    }

    private static void register() {
        new Script("14 register").due("""
            set(1, 7) = 7; make(2, 4) = 0; make(3, 4) = 1; move(3, 4) = 4; register(0, 0) = 0; register(0, 1) = -1;
            register(0, 2) = -1; register(1, 0) = 1; register(1, 1) = 7; register(1, 2) = -1; register(3, 0) = 2;
            register(3, 1) = 1; register(3, 2) = 4; register(2, 2) = 0; register(-1, 0) = -2; register(6, 0) = -2;
            register(0, -1) = -2; register(0, 3) = -2; register(3, 3) = -2; register(2147483647, 0) = -2;
            register(0, -2147483648) = -2; count(4) = 7; count(9) = 4
            """);
    }

    private static void piece() {
        new Script("15 piece").due("""
            make(0, 8) = 0; make(1, 2) = 1; make(2, 3) = 2; set(3, 5) = 5; store(0, 1, 2) = 0; move(0, 3) = 3;
            store(0, 1, 2) = 3; store(1, 2, 2) = 0; store(2, 3, 1) = 0; piece(0, 0) = 8; piece(0, 1) = 1; piece(0, 2) = 0;
            piece(0, 3) = 4; piece(0, 4) = 2; piece(0, 5) = 3; piece(1, 5) = 2; piece(2, 5) = 1; piece(1, 3) = 0;
            piece(1, 4) = 1; piece(2, 3) = 2; piece(2, 4) = 0; end(2) = 2; piece(2, 1) = 0; piece(2, 0) = 3;
            piece(2, 3) = 2; piece(0, 5) = 3; piece(2, 5) = 1; end(1) = 1; piece(0, 5) = 3; piece(1, 4) = 1;
            piece(-1, 0) = -2; piece(3, 0) = -2; piece(3, 5) = -2; piece(-1, 5) = -2; piece(10, 0) = -2; piece(0, 6) = -2;
            piece(0, -1) = -2; piece(2147483647, 0) = -2; piece(-2147483648, 5) = -2; count(4) = 9
            """);
        new Script("15 piece of a constant block and of a ring").due("""
            make(0, 2) = 0; make(1, 2) = 1; make(2, 2) = 2; store(0, 1, 2) = 0; store(1, 2, 2) = 0; store(2, 0, 2) = 0;
            piece(0, 5) = 3; piece(1, 5) = 3; piece(2, 5) = 3; freeze(1) = 0; piece(0, 2) = 1; piece(2, 2) = 1
            """);
        new Script("15 piece that reaches all ten blocks").due("""
            make(0, 2) = 0; make(1, 2) = 1; store(1, 0, 2) = 0; make(0, 2) = 2; store(0, 1, 2) = 0; make(1, 2) = 3;
            store(1, 0, 2) = 0; make(0, 2) = 4; store(0, 1, 2) = 0; make(1, 2) = 5; store(1, 0, 2) = 0; make(0, 2) = 6;
            store(0, 1, 2) = 0; make(1, 2) = 7; store(1, 0, 2) = 0; make(0, 2) = 8; store(0, 1, 2) = 0; make(1, 12) = 9;
            store(1, 0, 2) = 0; piece(9, 5) = 10; piece(8, 5) = 9; freeze(1) = 0; image(0, 0) = 10; image(0, 1) = 30;
            image(0, 2) = 9; imaged(0, 8, 0) = 1900; imaged(0, 9, 1) = -1; piece(0, 2) = 1
            """);
    }

    private static void at() {
        new Script("16 at").due("""
            make(0, 12) = 0; make(1, 12) = 1; set(2, 511) = 511; move(1, 12) = 12; store(0, 2, 2) = 0; move(0, 2) = 2;
            store(0, 1, 2) = 2; at(0, 0) = 255; at(0, 1) = 1; at(0, 2) = 1112; at(0, 3) = 999; at(0, 4) = -1; at(0, 11) = -1;
            at(0, 12) = -2; at(0, -1) = -2; at(2, 0) = -2; at(-1, 0) = -2; at(0, 2147483647) = -2;
            at(0, -2147483648) = -2; at(10, 0) = -2; at(2147483647, 0) = -2; count(4) = 8; move(0, -2) = 0; end(0) = 0;
            at(0, 0) = 255; at(0, 2) = 1112
            """);
        new Script("16 at, behind the size").due("make(0, 3) = 0; make(1, 3) = 1; at(0, 2) = -1; at(0, 3) = -2");
    }

    private static void image() {
        new Script("17 image").due("""
            image(0, 0) = -2; make(0, 5) = 0; make(1, 3) = 1; store(0, 1, 2) = 0; move(0, 2) = 2; store(0, 0, 2) = 2;
            move(0, -2) = 0; freeze(0) = 0; image(0, 0) = 2; image(0, 1) = 8; image(0, 2) = 2; freeze(1) = 1;
            image(1, 0) = 1; image(1, 1) = 3; image(1, 2) = 0; image(2, 0) = -2; image(-1, 0) = -2; image(0, 3) = -2;
            image(0, -1) = -2; image(2147483647, 0) = -2; image(8, 1) = -2; image(9, 1) = -2; count(4) = 8
            """);
    }

    /** like() looks at images that are none, and nothing of them may be left in the next one. */
    private static void imageAfterLike() {
        String calls = "make(0, 4) = 0; make(1, 5) = 1; store(0, 1, 2) = 0; make(2, 3) = 2; ";
        Script plain = new Script("17 image").due(calls + "freeze(2) = 0");
        Script after = new Script("17 image after like").due(calls + "like(0) = -1; freeze(2) = 0");
        after.due(plain.ask("digest"), "digest");
        after.due("image(0, 0) = 1; image(0, 1) = 3; image(0, 2) = 0; imaged(0, 1, 0) = -2; imaged(0, 0, 0) = -1");
    }

    private static void imaged() {
        new Script("18 imaged").due("""
            make(0, 4) = 0; make(1, 3) = 1; make(4, 1) = 2; move(1, 3) = 3; store(0, 1, 2) = 0; set(2, 200) = 200;
            move(0, 2) = 2; store(0, 2, 1) = 2; move(0, -2) = 0; freeze(0) = 0; imaged(0, 0, 0) = 1103;
            imaged(0, 0, 1) = 999; imaged(0, 0, 2) = 200; imaged(0, 0, 3) = -1; imaged(0, 0, 4) = -5;
            imaged(0, 0, 2147483647) = -5; imaged(0, 1, 2) = -1; imaged(0, 1, 3) = -5; imaged(0, 0, -1) = -2;
            imaged(0, 2, 0) = -2; imaged(0, -1, 0) = -2; imaged(1, 0, 0) = -2; imaged(-1, 0, 0) = -2;
            imaged(0, 2147483647, 0) = -2; imaged(0, 0, -2147483648) = -2; imaged(0, 2, 99) = -2; imaged(8, 0, 0) = -2;
            count(4) = 9; count(7) = 0; count(5) = 0; count(6) = 0
            """);
        new Script("18 an image does not change any more").due("""
            make(0, 2) = 0; freeze(0) = 0; make(1, 2) = 1; set(2, 5) = 5; store(1, 2, 1) = 0; like(1) = -1;
            imaged(0, 0, 0) = -1; imaged(0, 0, 1) = -1; image(0, 0) = 1; piece(1, 2) = 0
            """);
    }

    private static void like() {
        new Script("19 like").due("""
            like(0) = -2; like(-1) = -2; make(0, 2) = 0; like(0) = -1; freeze(0) = 0; like(0) = 0; make(1, 2) = 1;
            like(1) = 0; piece(1, 2) = 0; set(2, 1) = 1; store(1, 2, 1) = 0; like(1) = -1; make(3, 2) = 2; store(3, 0, 2) = 0;
            like(2) = -1; freeze(3) = 1; like(2) = 1; like(0) = 0; like(3) = -2; like(2147483647) = -2; count(4) = 4;
            make(4, 2) = 3; make(5, 2) = 4; store(4, 5, 2) = 0; like(3) = 1; end(5) = 4; like(3) = -3; like(4) = -3;
            count(5) = 2; count(1) = 2; make(5, 2) = 5; store(4, 5, 2) = 0; like(3) = 1; count(9) = 5
            """);
    }

    private static void count() {
        Script s = new Script("20 count").due("""
            make(0, 2) = 0; make(1, 2) = 1; end(1) = 1; freeze(0) = 0; budget(7) = 40; type(59) = 1; type(32) = 2;
            count(0) = 2; count(1) = 1; count(2) = 1; count(3) = 7; count(8) = 2; count(9) = 5; set(2, 0) = 0; count(9) = 5;
            count(10) = -2; count(-1) = -2; count(2147483647) = -2; count(-2147483648) = -2; count(4) = 4;
            back() = 4; back() = 3; back() = 2; back() = 1; back() = 0; back() = -3; back() = -3; count(5) = 2;
            end(1) = -11; end(3) = -11; set(0, 0) = 0; end(0) = -12; count(7) = 3; count(4) = 4; count(6) = 0; count(8) = 2; count(0) = 1
            """);
        s.does("x", -10).does("e3;", -5000).does("e9;", -2000).does("s1 1;e0;", -6001);
        s.due("count(4) = 4; count(5) = 2; count(6) = 0; count(7) = 3; undefined(1) = 2; undefined(2) = 1");
    }

    private static void undefined() {
        new Script("21 undefined").due("""
            undefined(1) = 0; undefined(9) = 0; undefined(0) = -2; undefined(10) = -2; undefined(-1) = -2;
            undefined(2147483647) = -2; undefined(-2147483648) = -2; count(4) = 5;
            move(0, 0) = -11; set(0, 0) = 0; freeze(0) = -12; freeze(0) = -12; make(1, 3) = 0; compare(0, 1) = -17;
            move(1, -1) = -15; move(1, 1) = 1; freeze(1) = -19; store(1, 1, 2) = 1; load(2, 1, 1) = -16; make(2, 1) = 1;
            compare(1, 2) = -18; freeze(2) = 0; end(2) = -14; make(3, 1) = 2; end(3) = 2; end(3) = -13;
            undefined(1) = 1; undefined(2) = 2; undefined(3) = 1; undefined(4) = 1; undefined(5) = 1; undefined(6) = 1;
            undefined(7) = 1; undefined(8) = 1; undefined(9) = 1; count(7) = 10
            """);
        new Script("21 undefined, counts stay when a state is brought back").due("""
            set(0, 0) = 0; end(0) = -12; back() = 0; undefined(2) = 1; count(7) = 1
            """);
    }
}
