/** Promises 25 and 26: saved states and the checksum. */
final class StatesTest {
    public static void main(String[] args) {
        nothingToBringBack();
        onlyFive();
        whatSaves();
        whatDoesNotSave();
        whatComesBack();
        whatStays();
        images();
        emptyDigest();
        digestByHand();
        digestChangesNothing();
        Script.end();
    }

    private static void nothingToBringBack() {
        new Script("25 back without a saved state").due("""
            back() = -3; count(5) = 1; set(0, 1) = 1; back() = 0; back() = -3; register(0, 0) = 0; count(5) = 2
            """);
    }

    private static void onlyFive() {
        new Script("25 the latest five states").due("""
            set(0, 1) = 1; set(0, 2) = 2; set(0, 3) = 3; set(0, 4) = 4; set(0, 5) = 5; count(9) = 5; set(0, 6) = 6;
            set(0, 7) = 7; count(9) = 5; back() = 4; register(0, 1) = 6; back() = 3; register(0, 1) = 5; set(0, 8) = 8;
            count(9) = 4; back() = 3; register(0, 1) = 5; back() = 2; register(0, 1) = 4; back() = 1; register(0, 1) = 3;
            back() = 0; register(0, 1) = 2; back() = -3; register(0, 1) = 2; set(0, 9) = 9; back() = 0; register(0, 1) = 2
            """);
    }

    private static void whatSaves() {
        for (String call : new String[] {"make(1, 3) = 1", "end(0) = 0", "set(1, 2) = 2", "copy(1, 0) = 2", "copy(0, 0) = 2",
                "copy(4, 5) = 0", "move(0, 0) = 0", "store(0, 0, 2) = 0", "load(1, 2, 1) = 1", "blit(0, 2, 1) = 1",
                "freeze(0) = 0", "forget(0) = 2", "forget(5) = 0", "budget(40) = 40", "budget(9) = 40"}) {
            Script s = new Script("25 saved by " + call)
                .due("make(2, 3) = 0; set(3, 7) = 7; store(2, 3, 1) = 0; copy(0, 2) = 2; count(9) = 4");
            long before = s.ask("digest");
            s.due(call).due("count(9) = 5; back() = 4");
            s.due(before, "digest");
        }
        Script s = new Script("25 saved by does()");
        s.typed("m0 1;s1 2;");
        long before = s.ask("digest");
        s.due("does() = 2; count(9) = 1; back() = 0");
        s.due(before, "digest");
    }

    private static void whatDoesNotSave() {
        Script s = new Script("25 calls that save nothing").due("""
            make(0, 3) = 0; count(9) = 1; compare(0, 0) = 1; register(0, 0) = 2; piece(0, 0) = 3; at(0, 0) = -1;
            image(0, 0) = -2; imaged(0, 0, 0) = -2; like(0) = -1; count(0) = 1; undefined(1) = 0; type(101) = 1; clear() = 1;
            does() = -10; make(6, 1) = -2; end(1) = -11; set(0, -1) = -2; copy(0, 6) = -2; move(0, 12) = -15;
            store(0, 1, 1) = -11; load(0, 0, 1) = -11; blit(0, 1, 1) = -11; freeze(1) = -11; forget(6) = -2; budget(0) = -2;
            count(9) = 1; back() = 0; count(0) = 0
            """);
        s.due(s.ask("digest"), "digest");
        s.due("count(9) = 0");
    }

    private static void whatComesBack() {
        new Script("25 what comes back").due("""
            make(0, 4) = 0; make(1, 2) = 1; store(0, 1, 2) = 0; set(2, 9) = 9; end(1) = 1; back() = 4; piece(1, 1) = 1;
            register(2, 1) = 9; back() = 3; register(2, 0) = 0; freeze(0) = 0; piece(0, 2) = 1; piece(1, 2) = 1; count(1) = 1;
            back() = 3; piece(0, 2) = 0; piece(1, 2) = 0; count(1) = 0; back() = 2; at(0, 0) = -1; at(0, 1) = -1;
            move(0, 3) = 3; back() = 2; register(0, 2) = 0; forget(0) = 2; back() = 2; register(0, 0) = 2;
            register(0, 1) = 0; budget(5) = 40; back() = 2; count(3) = 40; back() = 1; count(0) = 1; at(1, 0) = -2
            """);
    }

    private static void whatStays() {
        Script s = new Script("25 the text and the counts of errors stay").due("set(0, 1) = 1; set(9, 1) = -2; freeze(0) = -12");
        s.typed("s0 2;").due("""
            back() = 0; count(4) = 1; count(7) = 1; undefined(2) = 1; count(8) = 5; back() = -3; count(5) = 1;
            does() = 1; register(0, 1) = 2; clear() = 5; back() = 0; count(8) = 0; register(0, 0) = 0
            """);
    }

    private static void images() {
        new Script("25 images come back as they were").due("""
            make(0, 2) = 0; make(1, 3) = 1; make(2, 4) = 2; freeze(0) = 0; freeze(1) = 1; freeze(2) = 2; image(2, 1) = 4;
            back() = 4; back() = 3; count(1) = 1; freeze(2) = 1; freeze(1) = 2; image(0, 1) = 2; image(1, 1) = 4;
            image(2, 1) = 3; back() = 4; image(1, 1) = 4; count(1) = 2; like(1) = -1; like(2) = 1
            """);
    }

    private static void emptyDigest() {
        long h = 2010;
        h = values(h, 0, 0, 0, 40, 0, 0, 0, 0, 0, 0);
        h = values(h, 0, 0, 0, 0, 0, 0, 0, 0, 0);
        for (int r = 0; r < 6; r++) {
            h = values(h, 0, -1, -1);
        }
        Script s = new Script("26 digest of a new object");
        s.due(h, "digest");
    }

    private static void digestByHand() {
        Script s = new Script("26 digest").due("""
            make(0, 4) = 0; make(1, 2) = 1; store(0, 1, 2) = 0; set(2, 7) = 7; store(1, 2, 1) = 0; freeze(0) = 0;
            make(3, 1) = 2; move(0, 4) = 4; end(3) = 2; make(5, 13) = -2; like(2) = -3; move(0, 1) = -15;
            store(3, 3, 2) = -13; type(59) = 1
            """);
        long h = 2010;
        h = values(h, 3, 1, 2, 40, 1, 1, 0, 2, 1, 5);
        h = values(h, 0, 0, 1, 0, 1, 0, 0, 0, 0);
        h = values(h, 2, 0, 4, 2, 1, 0, 1, 7, -1, 2, 2, 0, 0, -1, -1, 0, -1, -1);
        h = values(h, 4, 1, 1, 2, 1, 1100, 999, -1, -1);
        h = values(h, 2, 1, 1, 1, 0, 7, -1);
        h = values(h, 1, 0, 0, 1, 0, -1);
        h = values(h, 2, 6, 1, 1100, 999, -1, -1, 7, -1);
        s.due(h, "digest");
    }

    private static void digestChangesNothing() {
        Script s = new Script("26 digest changes nothing").due("make(0, 2) = 0; freeze(0) = 0; end(0) = -14");
        long first = s.ask("digest");
        s.due(first, "digest");
        s.due("count(4) = 0; count(5) = 0; count(7) = 1; count(9) = 2");
        s.due(first, "digest");
    }

    private static long values(long begin, int... values) {
        long h = begin;
        for (int v : values) {
            h = 31 * h + v;
        }
        return h;
    }
}
