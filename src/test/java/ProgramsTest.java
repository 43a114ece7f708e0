/** Promises 22 to 24: the text buffer and programs. */
final class ProgramsTest {
    public static void main(String[] args) {
        type();
        clear();
        eachInstruction();
        texts();
        errorPositions();
        jumps();
        budget();
        refusedInstructions();
        nothingIsChanged();
        Script.end();
    }

    private static void type() {
        Script s = new Script("22 type").due("""
            type(0) = 1; type(127) = 2; type(128) = -2; type(-1) = -2; type(2147483647) = -2; type(-2147483648) = -2;
            count(8) = 2; count(4) = 4; count(9) = 0; clear() = 2
            """);
        for (int i = 1; i <= 120; i++) {
            s.due(i, "type", 32);
        }
        s.due("""
            type(59) = -4; type(128) = -2; count(6) = 1; count(4) = 5; count(8) = 120; does() = -130; clear() = 120;
            type(59) = 1
            """);
    }

    private static void clear() {
        Script s = new Script("23 clear").due("clear() = 0; type(115) = 1; type(48) = 2; clear() = 2; clear() = 0");
        s.due("count(8) = 0; count(9) = 0; does() = -10").does("s0 1;", 1).due("clear() = 5; does() = -10");
    }

    private static void eachInstruction() {
        new Script("24 m, e, s, c, v").does("m0 4;", 1)
            .due("register(0, 0) = 2; piece(0, 0) = 4").does("e0;", 1).due("piece(0, 1) = 0")
            .does("s1 65535;", 1).due("register(1, 1) = 65535").does("c2 1;", 1).due("register(2, 1) = 65535")
            .does("v2 -12;", 1).due("register(2, 1) = 65523").does("v2 12;v2 1;", 2).due("register(2, 1) = 0")
            .does("c1 5;", 1).due("register(1, 0) = 0");
        new Script("24 w, l, d, b, z").does("m0 4;s1 300;w0 1 2;", 3).due("at(0, 0) = 44; at(0, 1) = 1; at(0, 2) = -1")
            .does("l2 0 1;l3 0 2;", 2).due("register(2, 1) = 44; register(3, 1) = 300")
            .does("d2 3 4;d3 2 5;", 2).due("register(4, 1) = 0; register(5, 1) = 2; register(2, 1) = 44")
            .does("d2 2 2;", 1).due("register(2, 1) = 1; register(2, 0) = 1")
            .does("c1 0;v1 2;b1 0 2;", 3).due("at(0, 2) = 44; at(0, 3) = 1").does("w0 0 2;z0;", 2)
            .due("count(1) = 1; piece(0, 2) = 1; imaged(0, 0, 0) = 1000; at(0, 2) = 44; count(9) = 5");
        new Script("24 the greatest number of instructions")
            .does("m0 1;" + "z0;".repeat(38), 39).due("clear() = 119")
            .does("z0;".repeat(40), 40).due("count(1) = 1; clear() = 120; budget(39) = 40")
            .does("z0;".repeat(40), -500);
    }

    private static void texts() {
        new Script("24 spaces").does("s0 1;", 1).does("  s  0  1  ;  ", 1).does("s 0 1 ; s1 2;", 2).does("s0 1 ;s1 2; ", 2)
            .does("v0-1;", 1).due("register(0, 1) = 0").does("v 0 -1 ;", 1).due("register(0, 1) = 65535").does("v0 2;", 1)
            .does("m  5   3;w 5 0 1;l4 5 1;b5 5 3;d0 0 0;", 5);
        new Script("24 numbers").does("s00001 00009;", 1).due("register(1, 1) = 9").does("v00001-00010;", 1)
            .due("register(1, 1) = 65535").does("v1 -0;", 1).does("v1 00000;", 1).due("register(1, 1) = 65535")
            .does("v1-12345;", -2000).does("s1 99999;", -2000).does("j1 99999;", 1).does("s99999 1;", -2000);
    }

    private static void errorPositions() {
        new Script("24 error positions, texts that end too early").does("", -10).does(" ", -11).does("   ", -13)
            .does("s", -11).does("s0", -12).does("s0 ", -13).does("s0 1", -14).does("s0 1 ", -15).does("e0", -12)
            .does("e0;e", -14).does("v0-", -13).does("v0 -1", -15).does("e0; ;", -14);
        new Script("24 error positions, letters").does("a", -10).does("S0 1;", -10).does(";", -10).does("0;", -10)
            .does("s0 1;x", -15).does("  f0;", -12).does("s0 1;;", -15).does("ms0 1;", -11).does("e0 e0;", -13)
            .does("t0;", -10).does("-", -10).does("e0;\n", -13).does("\t", -10).does("e\u00000;", -11);
        new Script("24 error positions, numbers").does("s3 123456;", -18).does("s123456 1;", -16).does("e;", -11)
            .does("e 0 0;", -14).does("s0;", -12).does("s0 ;", -13).does("s0 1 2;", -15).does("d0 0;", -14).does("d0 0 0 0;", -17)
            .does("e0 0", -13).does("w12345 12345 12345 1", -29).does("e123456", -16);
        new Script("24 error positions, minus signs").does("s0 -1;", -13).does("s-1 0;", -11).does("v-1 0;", -11)
            .does("v0 - 1;", -14).does("v0--1;", -13).does("v0-;", -13).does("v0 1-;", -14).does("v0 1 -", -15)
            .does("m0-1;", -12).does("v0 -1-", -15).does("v0 -123456;", -19).does("v0-1 2;", -15).does("e-0;", -11)
            .does("j0 -1;", -13).does("v -", -12).does("v0 -1 -1;", -16).does("b0 0-1;", -14);
        new Script("24 an error anywhere, and nothing is carried out").does("s0 1;s1 2;s2", -22)
            .due("register(0, 0) = 0; count(9) = 0; count(4) = 0; count(7) = 0; count(8) = 12");
    }

    private static void jumps() {
        new Script("24 jumps").does("s0 3;v0 -1;j0 1;", 7).due("register(0, 1) = 0")
            .does("s0 1;j0 3;s1 5;s2 6;", 3).due("register(1, 0) = 0; register(2, 1) = 6")
            .does("s0 0;j0 3;s1 5;s2 7;", 4).due("register(1, 1) = 5; register(2, 1) = 7")
            .does("s0 1;j0 2;", 2).does("s0 1;j0 3;s3 1;", 2).due("register(3, 0) = 0")
            .does("s0 1;j0 99999;s3 1;", 2).does("s0 65535;j0 9;s3 1;", 2).does("s0 1;j0 00;", -500);
        new Script("24 jumps, wrong registers").does("j0 0;", -5000).does("s0 1;j6 0;", -2001).does("m0 1;j0 9;", -11001)
            .does("s0 0;j0 0;", 2).does("j1 9;", -5000).does("j99999 0;", -2000);
    }

    private static void budget() {
        new Script("24 the budget").due("budget(3) = 40").does("s0 1;s1 1;s2 1;", 3).does("s0 1;s1 1;s2 1;s3 1;", -500)
            .due("register(3, 0) = 0").does("s0 1;j0 1;", -500).does("s0 1;s1 1;j0 9;s3 1;", 3)
            .does("s0 1;s1 1;s2 1;e5;", -500).does("s0 1;s1 1;e5;", -5002).due("budget(1) = 3").does("s0 1;", 1)
            .does("s0 1;s1 1;", -500).due("budget(60) = 1").does("s0 19;v0 -1;v1 0;j0 1;", 58)
            .does("s0 20;v0 -1;v1 0;j0 1;", -500).does("s0 1;s0 1;s0 19;v0 -1;v1 0;j0 3;", 60)
            .due("budget(40) = 60").does("s0 1;s0 13;v0 -1;v1 0;j0 2;", -500)
            .does("s0 13;v0 -1;v1 0;j0 1;", 40);
    }

    private static void refusedInstructions() {
        new Script("24 BAD").does("m6 1;", -2000).does("m0 0;", -2000).does("s0 1;m0 13;", -2001).does("e6;", -2000)
            .does("s0 65536;", -2000).does("s6 1;", -2000).does("c0 6;", -2000).does("v0 13;", -2000).does("v0 -13;", -2000)
            .does("w0 0 3;", -2000).does("w0 0 0;", -2000).does("l0 0 3;", -2000).does("b0 0 0;", -2000).does("b0 0 13;", -2000)
            .does("z6;", -2000).does("d0 0 6;", -2000).does("s0 1;d0 0 6;", -2001).does("d6 0 0;", -2000).does("d0 6 0;", -2000)
            .does("s0 1;s0 1;s0 1;s0 1;s0 1;s0 1;s0 1;s0 1;s0 1;s0 1;s0 1;e6;", -2011);
        new Script("24 reasons").does("e0;", -5000).does("s0 1;e0;", -6001).does("m0 1;c1 0;e0;e1;", -7003)
            .does("m0 1;z0;e0;", -8002).does("m0 1;v0 2;", -9001).does("m0 2;w0 0 2;l1 0 1;", -10002)
            .does("m0 2;w0 0 1;", -11001).does("m0 1;m1 1;d0 1 2;", -12002).does("m0 1;v0 1;z0;", -13002)
            .does("d0 0 0;", -5000).does("b0 0 1;", -5000).does("m0 1;s1 1;d0 1 2;", -11002);
        Script full = new Script("24 FULL, blocks").does("m0 1;".repeat(10), 10).does("m0 1;", -3000)
            .does("s0 1;s0 1;m0 1;", -3002).does("m0 13;", -2000).due("count(6) = 0; count(4) = 0; count(0) = 10");
        full.does("v0 1;", 1);
        new Script("24 FULL, images")
            .does("m0 1;z0;m0 2;z0;m0 3;z0;m0 4;z0;m0 5;z0;m0 6;z0;m0 7;z0;", 14).does("m0 8;z0;", 2)
            .does("m0 9;z0;", -3001).does("m0 8;z0;", 2).due("count(1) = 8; count(0) = 9; count(6) = 0")
            .does("m0 12;s1 1;w0 1 1;z0;", -3003);
    }

    private static void nothingIsChanged() {
        Script s = new Script("24 a refused program changes nothing").due("""
            make(0, 4) = 0; set(1, 5) = 5; store(0, 1, 1) = 0; copy(2, 0) = 2; digest() = %d
            """.formatted(digestOf()));
        s.typed("m3 2;w0 3 2;v0 2;s1 9;z3;e2;c4 1;l5 0 1;");
        long before = s.ask("digest");
        s.due("does() = -7007").due(before, "digest");
        s.due("count(0) = 1; count(1) = 0; count(9) = 4; at(0, 0) = 5; register(3, 0) = 0; register(1, 1) = 5");
        s.due("back() = 3; register(2, 0) = 0");
        new Script("24 the text stays, and the program is one saved state").does("s0 1;s1 2;m2 3;", 3)
            .due("count(9) = 1; count(8) = 15; does() = 3; count(9) = 2; count(0) = 2; back() = 1; count(0) = 1;"
                + "back() = 0; count(0) = 0; register(0, 0) = 0; count(8) = 15; does() = 3");
        new Script("24 does() when states are saved").due("set(0, 1) = 1; set(0, 2) = 2; set(0, 3) = 3; set(0, 4) = 4")
            .due("set(0, 5) = 5; count(9) = 5").does("s0 6;e1;", -5001).due("count(9) = 5; register(0, 1) = 5; back() = 4")
            .due("register(0, 1) = 4; back() = 3; back() = 2; back() = 1; back() = 0; register(0, 0) = 0; back() = -3");
    }

    private static long digestOf() {
        FrozenImages x = new FrozenImages();
        x.make(0, 4);
        x.set(1, 5);
        x.store(0, 1, 1);
        x.copy(2, 0);
        return x.digest();
    }
}
