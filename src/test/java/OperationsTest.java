/** Promises 1 to 13: a new object and the operations. */
final class OperationsTest {
    public static void main(String[] args) {
        newObject();
        make();
        end();
        set();
        copy();
        moveNumber();
        movePointer();
        storeNumber();
        storePointer();
        storeReasons();
        storeSplitsPointers();
        load();
        loadReasons();
        compare();
        blit();
        blitPointers();
        blitReasons();
        freeze();
        freezeOrder();
        freezeReasons();
        freezeFull();
        forget();
        budget();
        Script.end();
    }

    private static void newObject() {
        new Script("1 new object").due("""
            count(0) = 0; count(1) = 0; count(2) = 0; count(3) = 40; count(4) = 0; count(5) = 0;
            count(6) = 0; count(7) = 0; count(8) = 0; count(9) = 0;
            register(0, 0) = 0; register(5, 0) = 0; register(0, 1) = -1; register(0, 2) = -1;
            does() = -10; clear() = 0; back() = -3; count(5) = 1
            """);
        new Script("1 one object knows nothing of another").due("count(0) = 0; register(0, 0) = 0");
    }

    private static void make() {
        new Script("2 make").due("""
            make(0, 1) = 0; register(0, 0) = 2; register(0, 1) = 0; register(0, 2) = 0;
            piece(0, 0) = 1; piece(0, 1) = 1; piece(0, 2) = 0; piece(0, 3) = 1; at(0, 0) = -1;
            make(5, 12) = 1; register(5, 1) = 1; piece(1, 0) = 12; piece(1, 3) = 12; at(1, 11) = -1;
            make(0, 2) = 2; register(0, 1) = 2; count(0) = 3; count(9) = 3
            """);
        new Script("2 make, wrong inputs").due("""
            make(-1, 1) = -2; make(6, 1) = -2; make(0, 0) = -2; make(0, 13) = -2; make(0, -1) = -2;
            make(2147483647, 1) = -2; make(-2147483648, 1) = -2; make(0, 2147483647) = -2;
            make(0, -2147483648) = -2; count(4) = 9; count(0) = 0; count(9) = 0; register(0, 0) = 0
            """);
        new Script("2 make, ten blocks, ended ones too").due("""
            make(0, 1) = 0; end(0) = 0; make(0, 1) = 1; make(0, 1) = 2; make(0, 1) = 3; make(0, 1) = 4;
            make(0, 1) = 5; make(0, 1) = 6; make(0, 1) = 7; make(0, 1) = 8; make(1, 12) = 9;
            make(2, 1) = -4; make(6, 1) = -2; make(2, 13) = -2; count(6) = 1; count(4) = 2;
            count(0) = 10; register(2, 0) = 0; at(9, 11) = -1; piece(9, 0) = 12; at(8, 0) = -1;
            back() = 4; make(2, 3) = 9; piece(9, 0) = 3; register(1, 0) = 0; at(9, 2) = -1; at(9, 3) = -2
            """);
        new Script("2 make, new bytes are uninitialized").due("""
            make(0, 3) = 0; set(1, 77) = 77; store(0, 1, 1) = 0; at(0, 0) = 77; back() = 2; back() = 1; back() = 0;
            make(0, 3) = 0; at(0, 0) = -1; piece(0, 3) = 3
            """);
    }

    private static void end() {
        new Script("3 end").due("""
            make(0, 4) = 0; make(1, 4) = 1; store(0, 1, 2) = 0; end(1) = 1; piece(1, 1) = 0; piece(0, 1) = 1;
            count(2) = 1; count(0) = 2; piece(1, 0) = 4; at(1, 0) = -1; at(0, 0) = 1100; register(1, 0) = 2;
            end(1) = -13; copy(2, 1) = 2; end(2) = -13; undefined(3) = 2; end(0) = 0; count(2) = 0
            """);
        new Script("3 end, reasons in their order").due("""
            end(-1) = -2; end(6) = -2; end(0) = -11; set(0, 0) = 0; end(0) = -12; make(0, 2) = 0; move(0, 1) = 1;
            end(0) = -19; move(0, 1) = 2; end(0) = -19; move(0, -2) = 0; copy(1, 0) = 2; freeze(0) = 0;
            end(0) = -14; move(0, 1) = 1; end(0) = -19; piece(0, 1) = 1; make(0, 2) = 1; copy(1, 0) = 2;
            move(1, 2) = 2; end(0) = 1; end(1) = -13;
            undefined(1) = 1; undefined(2) = 1; undefined(3) = 1; undefined(4) = 1; undefined(9) = 3; count(7) = 7
            """);
    }

    private static void set() {
        new Script("4 set").due("""
            set(0, 0) = 0; register(0, 0) = 1; register(0, 1) = 0; register(0, 2) = -1;
            set(5, 65535) = 65535; register(5, 1) = 65535; set(5, 1) = 1; register(5, 1) = 1;
            make(5, 1) = 0; register(5, 0) = 2; set(5, 9) = 9; register(5, 0) = 1; register(5, 2) = -1;
            set(5, 65536) = -2; set(5, -1) = -2; set(6, 0) = -2; set(-1, 0) = -2; set(0, 2147483647) = -2;
            set(0, -2147483648) = -2; register(5, 1) = 9; register(0, 1) = 0; count(4) = 6
            """);
    }

    private static void copy() {
        new Script("5 copy").due("""
            set(0, 300) = 300; make(1, 3) = 0; move(1, 2) = 2; copy(2, 0) = 1; register(2, 1) = 300;
            copy(2, 1) = 2; register(2, 0) = 2; register(2, 1) = 0; register(2, 2) = 2;
            move(1, -1) = 1; register(2, 2) = 2; copy(2, 2) = 2; register(2, 2) = 2;
            copy(0, 5) = 0; register(0, 0) = 0; register(0, 1) = -1; register(0, 2) = -1;
            copy(1, 5) = 0; register(1, 2) = -1; copy(4, 4) = 0; count(9) = 5;
            copy(0, 6) = -2; copy(6, 0) = -2; copy(-1, 0) = -2; copy(0, -1) = -2; count(4) = 4
            """);
        new Script("5 copy of a pointer to an ended block").due("""
            make(0, 3) = 0; end(0) = 0; copy(1, 0) = 2; register(1, 1) = 0; register(1, 2) = 0
            """);
    }

    private static void moveNumber() {
        new Script("6 move, numbers").due("""
            set(0, 65530) = 65530; move(0, 12) = 6; register(0, 1) = 6; move(0, -12) = 65530; move(0, 5) = 65535;
            move(0, 1) = 0; move(0, -1) = 65535; move(0, 0) = 65535; register(0, 0) = 1;
            move(0, 13) = -2; move(0, -13) = -2; move(6, 0) = -2; move(-1, 0) = -2; move(0, 2147483647) = -2;
            move(0, -2147483648) = -2; move(1, 0) = -11; move(1, 13) = -2; count(4) = 7; undefined(1) = 1
            """);
    }

    private static void movePointer() {
        new Script("6 move, pointers").due("""
            make(0, 12) = 0; move(0, 12) = 12; register(0, 2) = 12; register(0, 1) = 0; move(0, 1) = -15;
            move(0, -12) = 0; move(0, -1) = -15; register(0, 2) = 0; make(1, 3) = 1; move(1, 3) = 3; move(1, 1) = -15;
            move(1, -2) = 1; move(1, -2) = -15; register(1, 2) = 1; undefined(5) = 4;
            copy(2, 0) = 2; end(0) = 0; move(2, 1) = -13; move(2, 0) = -13; move(2, -1) = -13; move(1, -1) = 0;
            freeze(1) = 0; move(1, 2) = 2; undefined(3) = 3
            """);
    }

    private static void storeNumber() {
        new Script("7 store, numbers").due("""
            make(0, 4) = 0; set(1, 65281) = 65281; store(0, 1, 2) = 0; at(0, 0) = 1; at(0, 1) = 255; at(0, 2) = -1;
            move(0, 3) = 3; store(0, 1, 1) = 3; at(0, 3) = 1; at(0, 2) = -1; register(0, 2) = 3;
            store(0, 1, 2) = -15; move(0, 1) = 4; store(0, 1, 1) = -15; move(0, -2) = 2; store(0, 1, 2) = 2;
            at(0, 3) = 255; set(1, 65535) = 65535; move(0, -1) = 1; store(0, 1, 1) = 1; at(0, 1) = 255; at(0, 2) = 1;
            set(1, 256) = 256; store(0, 1, 1) = 1; at(0, 1) = 0; piece(0, 3) = 0
            """);
    }

    private static void storePointer() {
        new Script("7 store, pointers").due("""
            make(0, 4) = 0; make(1, 12) = 1; move(1, 12) = 12; store(0, 1, 2) = 0; at(0, 0) = 1112; at(0, 1) = 999;
            move(0, 2) = 2; store(0, 0, 2) = 2; at(0, 2) = 1002; at(0, 3) = 999; piece(0, 4) = 2; piece(0, 3) = 0;
            store(0, 1, 1) = -17; move(1, -12) = 0; copy(2, 1) = 2; end(1) = 1; store(0, 2, 2) = 2; at(0, 2) = 1100;
            store(2, 0, 2) = -13
            """);
    }

    private static void storeReasons() {
        new Script("7 store, wrong inputs and reasons in their order").due("""
            store(6, 0, 1) = -2; store(-1, 0, 1) = -2; store(0, 6, 1) = -2; store(0, -1, 1) = -2; store(0, 0, 0) = -2;
            store(0, 0, 3) = -2; store(0, 0, -1) = -2; store(0, 0, 2147483647) = -2; count(4) = 8;
            store(0, 0, 1) = -11; set(0, 1) = 1; store(0, 1, 1) = -12; make(0, 1) = 0; store(0, 1, 2) = -15;
            store(0, 1, 1) = -11; store(0, 0, 1) = -17; store(0, 0, 2) = -15; make(2, 2) = 1; freeze(2) = 0;
            store(2, 1, 2) = -14; store(2, 2, 1) = -14; move(2, 2) = 2; store(2, 1, 1) = -14; store(2, 0, 2) = -14;
            copy(3, 0) = 2; end(0) = 0; store(3, 1, 2) = -13; store(3, 3, 1) = -13;
            count(7) = 12; undefined(1) = 2; undefined(2) = 1; undefined(3) = 2; undefined(4) = 4; undefined(5) = 2;
            undefined(7) = 1; piece(0, 3) = 1; piece(1, 3) = 2
            """);
    }

    private static void storeSplitsPointers() {
        Script pointers = new Script("7 store over halves of pointers").due("""
            make(0, 6) = 0; set(1, 513) = 513; store(0, 0, 2) = 0; move(0, 2) = 2; store(0, 0, 2) = 2; move(0, 2) = 4;
            store(0, 0, 2) = 4; at(0, 0) = 1000; at(0, 2) = 1002; at(0, 4) = 1004; piece(0, 4) = 3
            """);
        pointers.due("""
            move(0, -3) = 1; store(0, 1, 2) = 1; at(0, 0) = -1; at(0, 1) = 1; at(0, 2) = 2; at(0, 3) = -1;
            at(0, 4) = 1004; at(0, 5) = 999; piece(0, 4) = 1; piece(0, 3) = 2;
            move(0, 3) = 4; store(0, 1, 1) = 4; at(0, 4) = 1; at(0, 5) = -1; at(0, 3) = -1
            """);
        new Script("7 store over a second half").due("""
            make(0, 3) = 0; set(1, 7) = 7; move(0, 1) = 1; store(0, 0, 2) = 1; move(0, 1) = 2; store(0, 1, 1) = 2;
            at(0, 0) = -1; at(0, 1) = -1; at(0, 2) = 7;
            move(0, -1) = 1; store(0, 0, 2) = 1; store(0, 0, 2) = 1; at(0, 1) = 1001; at(0, 2) = 999; store(0, 1, 2) = 1;
            at(0, 0) = -1; at(0, 1) = 7; at(0, 2) = 0; move(0, -1) = 0; store(0, 0, 2) = 0; move(0, 1) = 1;
            store(0, 0, 2) = 1; at(0, 0) = -1; at(0, 1) = 1001; at(0, 2) = 999; move(0, -1) = 0; store(0, 0, 2) = 0;
            at(0, 0) = 1000; at(0, 1) = 999; at(0, 2) = -1
            """);
    }

    private static void load() {
        new Script("8 load").due("""
            make(0, 6) = 0; set(1, 65281) = 65281; store(0, 1, 2) = 0; load(2, 0, 1) = 1; register(2, 1) = 1;
            load(2, 0, 2) = 1; register(2, 1) = 65281; move(0, 1) = 1; load(2, 0, 1) = 1; register(2, 1) = 255;
            move(0, 1) = 2; make(3, 12) = 1; move(3, 12) = 12; store(0, 3, 2) = 2; load(4, 0, 2) = 2; register(4, 0) = 2;
            register(4, 1) = 1; register(4, 2) = 12; freeze(0) = -19; load(0, 0, 2) = 2; register(0, 1) = 1;
            register(0, 2) = 12; register(3, 2) = 12
            """);
        new Script("8 load from constant blocks and of pointers to ended ones").due("""
            make(0, 2) = 0; make(1, 2) = 1; store(0, 1, 2) = 0; end(1) = 1; load(2, 0, 2) = 2; register(2, 1) = 1;
            load(3, 2, 1) = -13; make(4, 1) = 2; set(5, 9) = 9; store(4, 5, 1) = 0; freeze(4) = 0; load(4, 4, 1) = 1;
            register(4, 1) = 9
            """);
    }

    private static void loadReasons() {
        new Script("8 load, wrong inputs and reasons in their order").due("""
            load(6, 0, 1) = -2; load(-1, 0, 1) = -2; load(0, 6, 1) = -2; load(0, -1, 1) = -2; load(0, 0, 0) = -2;
            load(0, 0, 3) = -2; load(0, 0, -2147483648) = -2; count(4) = 7;
            load(0, 1, 1) = -11; set(1, 5) = 5; load(0, 1, 1) = -12; make(1, 5) = 0; load(0, 1, 1) = -11;
            move(1, 5) = 5; load(0, 1, 1) = -15; move(1, -1) = 4; load(0, 1, 2) = -15; load(0, 1, 1) = -11;
            move(1, -3) = 1; store(1, 1, 2) = 1; load(0, 1, 1) = -16; load(0, 1, 2) = 2; move(1, 1) = 2;
            load(2, 1, 1) = -16; load(2, 1, 2) = -16; move(1, -2) = 0; load(2, 1, 2) = -16; load(2, 1, 1) = -11;
            set(3, 1) = 1; store(1, 3, 1) = 0; load(2, 1, 2) = -16; load(2, 1, 1) = 1; register(2, 1) = 1;
            move(1, 3) = 3; load(4, 1, 2) = -11; store(1, 3, 1) = 3; load(4, 1, 2) = -11; load(4, 1, 1) = 1;
            move(1, 1) = 4; store(1, 3, 1) = 4; back() = 4; move(1, -1) = 3; load(4, 1, 2) = -11;
            register(4, 0) = 1; end(1) = -19; move(1, -3) = 0; copy(5, 1) = 2; end(1) = 0; load(4, 5, 1) = -13;
            move(5, 1) = -13; undefined(6) = 5
            """);
        new Script("8 load of a second half before a first one").due("""
            make(0, 4) = 0; store(0, 0, 2) = 0; move(0, 2) = 2; store(0, 0, 2) = 2; move(0, -1) = 1;
            load(1, 0, 2) = -16; register(1, 0) = 0; move(0, 2) = 3; load(1, 0, 2) = -15; load(1, 0, 1) = -16
            """);
        new Script("8 load of an uninitialized byte before or behind a number").due("""
            make(0, 3) = 0; set(1, 1) = 1; move(0, 1) = 1; store(0, 1, 1) = 1; load(2, 0, 2) = -11; move(0, -1) = 0;
            load(2, 0, 2) = -11; register(2, 0) = 0; undefined(1) = 2
            """);
    }

    private static void compare() {
        new Script("9 compare").due("""
            set(0, 5) = 5; set(1, 6) = 6; compare(0, 1) = 0; compare(1, 0) = 2; compare(0, 0) = 1; copy(2, 0) = 1;
            compare(0, 2) = 1; set(1, 65535) = 65535; compare(1, 0) = 2; compare(0, 1) = 0;
            make(3, 3) = 0; copy(4, 3) = 2; compare(3, 4) = 1; move(4, 3) = 3; compare(3, 4) = 0; compare(4, 3) = 2;
            count(9) = 5; move(4, -3) = 0; end(4) = 0; compare(3, 4) = 1; compare(3, 3) = 1;
            register(0, 1) = 5; register(1, 1) = 65535; register(3, 0) = 2; count(9) = 5; count(7) = 0
            """);
        new Script("9 compare, wrong inputs and reasons in their order").due("""
            compare(6, 0) = -2; compare(0, 6) = -2; compare(-1, 0) = -2; compare(0, -1) = -2; compare(0, 0) = -11;
            set(0, 1) = 1; compare(0, 1) = -11; compare(1, 0) = -11; make(1, 3) = 0; compare(0, 1) = -17;
            compare(1, 0) = -17; compare(1, 2) = -11; compare(2, 1) = -11; make(2, 3) = 1; compare(1, 2) = -18;
            move(1, 1) = 1; compare(2, 1) = -18; compare(2, 0) = -17; count(4) = 4; undefined(1) = 5;
            undefined(7) = 3; undefined(8) = 2; count(9) = 4
            """);
    }

    private static void blit() {
        new Script("10 blit, numbers and uninitialized bytes").due("""
            make(0, 4) = 0; make(1, 4) = 1; set(2, 513) = 513; store(0, 2, 2) = 0; set(3, 9) = 9; move(1, 2) = 2;
            store(1, 3, 1) = 2; move(1, -1) = 1; blit(1, 0, 3) = 3; at(1, 0) = -1; at(1, 1) = 1; at(1, 2) = 2; at(1, 3) = -1;
            blit(1, 0, 4) = -15; blit(0, 1, 4) = -15; blit(0, 1, 1) = 1; at(0, 0) = 1; at(0, 1) = 2; register(1, 2) = 1;
            register(0, 2) = 0; blit(0, 0, 4) = 4; at(0, 0) = 1; at(0, 1) = 2; at(0, 2) = -1; at(1, 1) = 1
            """);
        new Script("10 blit, overlapping bytes").due("""
            make(0, 12) = 0; copy(1, 0) = 2; set(2, 513) = 513; store(0, 2, 2) = 0; move(1, 2) = 2; set(2, 1027) = 1027;
            store(1, 2, 2) = 2; move(1, -1) = 1; blit(1, 0, 4) = 4; at(0, 0) = 1; at(0, 1) = 1; at(0, 2) = 2; at(0, 3) = 3;
            at(0, 4) = 4; at(0, 5) = -1; blit(0, 1, 4) = 4; at(0, 0) = 1; at(0, 1) = 2; at(0, 2) = 3; at(0, 3) = 4;
            at(0, 4) = 4; blit(0, 0, 12) = 12; at(0, 4) = 4; at(0, 11) = -1
            """);
    }

    private static void blitPointers() {
        new Script("10 blit, pointers").due("""
            make(0, 6) = 0; make(1, 6) = 1; store(0, 1, 2) = 0; move(1, 2) = 2; copy(2, 0) = 2; move(2, 3) = 3;
            store(2, 1, 2) = 3; at(0, 3) = 1102; move(1, -1) = 1; blit(1, 0, 6) = -15; move(1, -1) = 0; blit(1, 0, 6) = 6;
            at(1, 0) = 1100; at(1, 1) = 999; at(1, 2) = -1; at(1, 3) = 1102; at(1, 4) = 999; at(1, 5) = -1;
            blit(1, 0, 1) = -16; blit(1, 0, 4) = -16; move(2, -2) = 1; blit(1, 2, 1) = -16; blit(1, 2, 2) = -16;
            blit(1, 2, 4) = -16; move(2, 1) = 2; blit(1, 2, 1) = 1; at(1, 0) = -1; at(1, 1) = -1; piece(1, 4) = 1;
            blit(1, 2, 2) = -16; blit(1, 2, 3) = 3; at(1, 0) = -1; at(1, 1) = 1102; at(1, 2) = 999; at(1, 3) = 1102;
            at(1, 4) = 999; undefined(6) = 6
            """);
        new Script("10 blit over halves of pointers").due("""
            make(0, 6) = 0; copy(1, 0) = 2; store(1, 0, 2) = 0; move(1, 4) = 4; store(1, 0, 2) = 4; make(2, 4) = 1;
            move(1, -3) = 1; blit(1, 2, 4) = 4; at(0, 0) = -1; at(0, 4) = -1; at(0, 5) = -1; piece(0, 3) = 6; piece(0, 4) = 0
            """);
        new Script("10 blit of a pointer over its own half").due("""
            make(0, 4) = 0; store(0, 0, 2) = 0; copy(1, 0) = 2; move(1, 1) = 1; blit(1, 0, 2) = 2; at(0, 0) = -1;
            at(0, 1) = 1000; at(0, 2) = 999; blit(0, 1, 2) = 2; at(0, 0) = 1000; at(0, 1) = 999; at(0, 2) = -1;
            blit(0, 0, 2) = 2; at(0, 0) = 1000; at(0, 1) = 999
            """);
    }

    private static void blitReasons() {
        new Script("10 blit, wrong inputs and reasons in their order").due("""
            blit(6, 0, 1) = -2; blit(-1, 0, 1) = -2; blit(0, 6, 1) = -2; blit(0, -1, 1) = -2; blit(0, 0, 0) = -2;
            blit(0, 0, 13) = -2; blit(0, 0, -1) = -2; count(4) = 7; blit(0, 1, 1) = -11; set(0, 0) = 0; blit(0, 1, 1) = -12;
            make(0, 3) = 0; blit(0, 1, 4) = -15; blit(0, 1, 3) = -11; set(1, 0) = 0; blit(0, 1, 3) = -12; make(1, 2) = 1;
            blit(0, 1, 3) = -15; blit(0, 1, 2) = 2; store(1, 1, 2) = 0; blit(0, 1, 3) = -15; blit(0, 1, 1) = -16;
            freeze(1) = 0; blit(1, 2, 3) = -14; blit(1, 0, 3) = -14; blit(0, 1, 2) = 2; at(0, 0) = 1100;
            make(2, 5) = 2; copy(3, 2) = 2; end(2) = 2; blit(3, 4, 1) = -13; blit(0, 3, 9) = -15; blit(0, 3, 3) = -13;
            blit(1, 3, 1) = -14; undefined(3) = 2; undefined(4) = 3
            """);
    }

    private static void freeze() {
        new Script("11 freeze").due("""
            make(0, 2) = 0; freeze(0) = 0; piece(0, 2) = 1; piece(0, 1) = 1; count(1) = 1; register(0, 0) = 2;
            freeze(0) = 0; count(1) = 1; make(1, 2) = 1; freeze(1) = 0; count(1) = 1; piece(1, 2) = 1;
            make(2, 3) = 2; freeze(2) = 1; make(2, 2) = 3; set(3, 0) = 0; store(2, 3, 1) = 0; freeze(2) = 2;
            make(2, 2) = 4; store(2, 3, 2) = 0; freeze(2) = 3; make(2, 2) = 5; set(3, 1) = 1; store(2, 3, 2) = 0;
            freeze(2) = 4; count(1) = 5; make(2, 2) = 6; store(2, 2, 2) = 0; freeze(2) = 5;
            imaged(5, 0, 0) = 1000; at(6, 0) = 1600; make(3, 2) = 7; store(3, 3, 2) = 0; freeze(3) = 5;
            make(4, 2) = 8; copy(5, 4) = 2; move(5, 1) = 1; store(4, 5, 2) = 0; freeze(4) = 6; imaged(6, 0, 0) = 1001
            """);
        new Script("11 freeze makes all reached blocks constant and no other").due("""
            make(0, 2) = 0; make(1, 2) = 1; make(2, 2) = 2; make(3, 2) = 3; store(0, 1, 2) = 0; store(1, 2, 2) = 0;
            store(3, 0, 2) = 0; freeze(0) = 0; piece(0, 2) = 1; piece(1, 2) = 1; piece(2, 2) = 1; piece(3, 2) = 0;
            image(0, 0) = 3; freeze(1) = 1; freeze(3) = 2; image(2, 0) = 4; piece(3, 2) = 1
            """);
    }

    private static void freezeOrder() {
        new Script("11 nodes come node by node, byte by byte").due("""
            make(0, 6) = 0; make(1, 3) = 1; make(2, 4) = 2; make(3, 5) = 3; store(0, 3, 2) = 0; move(0, 2) = 2;
            store(0, 1, 2) = 2; move(0, 2) = 4; store(0, 3, 2) = 4; move(0, -4) = 0; store(3, 2, 2) = 0; move(1, 1) = 1;
            store(1, 0, 2) = 1; freeze(0) = 0; image(0, 0) = 4; image(0, 1) = 18; image(0, 2) = 5;
            imaged(0, 0, 0) = 1100; imaged(0, 0, 2) = 1200; imaged(0, 0, 4) = 1100; imaged(0, 1, 0) = 1300;
            imaged(0, 1, 4) = -1; imaged(0, 1, 5) = -5; imaged(0, 2, 1) = 1000; imaged(0, 2, 0) = -1;
            imaged(0, 2, 3) = -5; imaged(0, 3, 0) = -1; imaged(0, 3, 3) = -1; imaged(0, 3, 4) = -5; imaged(0, 4, 0) = -2
            """);
        new Script("11 images differ by a size, a node, a pointer's target or its offset").due("""
            make(0, 2) = 0; make(1, 2) = 1; store(0, 1, 2) = 0; freeze(0) = 0; make(0, 2) = 2; make(1, 3) = 3;
            store(0, 1, 2) = 0; freeze(0) = 1; make(0, 2) = 4; make(1, 2) = 5; move(1, 1) = 1; store(0, 1, 2) = 0;
            freeze(0) = 2; make(0, 2) = 6; make(1, 2) = 7; store(0, 1, 2) = 0; store(1, 0, 2) = 0; freeze(0) = 3;
            freeze(1) = 3; make(0, 2) = 8; make(1, 2) = 9; store(0, 1, 2) = 0; store(1, 1, 2) = 0; freeze(0) = 4;
            freeze(1) = 5; imaged(4, 0, 0) = 1100; imaged(4, 1, 0) = 1100; imaged(5, 0, 0) = 1000
            """);
    }

    private static void freezeReasons() {
        new Script("11 freeze, wrong inputs and reasons in their order").due("""
            freeze(6) = -2; freeze(-1) = -2; count(4) = 2; freeze(0) = -11; set(0, 3) = 3; freeze(0) = -12;
            make(0, 4) = 0; make(1, 2) = 1; make(2, 2) = 2; store(0, 1, 2) = 0; store(1, 2, 2) = 0; copy(3, 2) = 2;
            end(2) = 2; freeze(0) = -13; piece(0, 2) = 0; piece(1, 2) = 0; count(1) = 0; move(0, 1) = 1; freeze(0) = -19;
            move(0, 1) = 2; freeze(0) = -19; freeze(3) = -13; copy(4, 1) = 2; set(5, 0) = 0; store(1, 5, 1) = 0;
            move(0, -2) = 0; freeze(0) = 0; undefined(3) = 2; undefined(9) = 2; image(0, 0) = 2
            """);
    }

    private static void freezeFull() {
        new Script("11 freeze, eight images").due("""
            make(0, 1) = 0; freeze(0) = 0; make(0, 2) = 1; freeze(0) = 1; make(0, 3) = 2; freeze(0) = 2; make(0, 4) = 3;
            freeze(0) = 3; make(0, 5) = 4; freeze(0) = 4; make(0, 6) = 5; freeze(0) = 5; make(0, 7) = 6; freeze(0) = 6;
            make(0, 8) = 7; freeze(0) = 7; count(1) = 8; make(0, 9) = 8; freeze(0) = -4; piece(8, 2) = 0; like(8) = -1;
            make(1, 8) = 9; freeze(1) = 7; piece(9, 2) = 1; count(1) = 8; count(6) = 1; image(7, 1) = 8; image(8, 0) = -2;
            move(0, 1) = 1; freeze(0) = -19; set(2, 1) = 1; freeze(2) = -12; image(7, 1) = 8
            """);
        new Script("11 freeze after states with images are brought back").due("""
            make(0, 1) = 0; make(1, 2) = 1; make(2, 3) = 2; freeze(0) = 0; freeze(1) = 1; back() = 4; count(1) = 1;
            image(1, 0) = -2; like(1) = -1; freeze(2) = 1; image(1, 1) = 3; freeze(1) = 2; image(2, 1) = 2;
            image(0, 1) = 1; like(2) = 1
            """);
    }

    private static void forget() {
        new Script("12 forget").due("""
            forget(0) = 0; count(9) = 1; set(0, 9) = 9; forget(0) = 1; register(0, 0) = 0; register(0, 1) = -1;
            register(0, 2) = -1; make(5, 2) = 0; forget(5) = 2; register(5, 0) = 0; register(5, 2) = -1; piece(0, 1) = 1;
            forget(5) = 0; forget(6) = -2; forget(-1) = -2; count(4) = 2; count(9) = 5
            """);
    }

    private static void budget() {
        new Script("13 budget").due("""
            budget(60) = 40; count(3) = 60; budget(1) = 60; count(3) = 1; budget(0) = -2; budget(61) = -2;
            budget(-1) = -2; budget(-2147483648) = -2; budget(2147483647) = -2; count(3) = 1; count(4) = 5;
            budget(40) = 1; back() = 2; count(3) = 1; back() = 1; count(3) = 60; back() = 0; count(3) = 40
            """);
    }
}
