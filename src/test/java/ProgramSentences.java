/** What the description says of programs, and the promises 22 to 24. */
final class ProgramSentences {
    private static final String LETTERS = "mescvwldbzj";

    private ProgramSentences() { }

    static void run() {
        textBuffer();
        oneOrMore();
        semicolons();
        letters();
        eachInstruction();
        comparison();
        jump();
        digits();
        minusSigns();
        spaces();
        errorPosition();
        textAfterText();
        carriedOut();
        jumpAway();
        steps();
        budget();
        typePromise();
        clearPromise();
        doesPromise();
        doesErrors();
    }

    private static Script says(String words) {
        return Document.description(words);
    }

    private static Script promise(int number, String words) {
        return Document.promise(number, words);
    }

    private static void textBuffer() {
        Script s = says("The text buffer holds at most 120 bytes.");
        for (int i = 1; i <= 120; i++) {
            s.due(i, "type", 32);
        }
        s.due("type(32) = -4; type(0) = -4; count(8) = 120; does() = -130; clear() = 120; type(32) = 1");
        // all 120 bytes are read: the last one ends the program, or is the wrong one
        says("The text buffer holds at most 120 bytes.").does("s0 1;".repeat(24), 24).due("count(8) = 120");
        says("The text buffer holds at most 120 bytes.").does("s0 1;".repeat(23) + "s0 1x", -129);
        says("The text buffer holds at most 120 bytes.").does("s0 1;".repeat(23) + "s0 12", -130);
        says("The text buffer holds at most 120 bytes.").does("s0 1;".repeat(23) + "s0 1", -129);
    }

    private static void oneOrMore() {
        says("A program consists of one or more instructions, numbered from 0").does("", -10).does(" ", -11).does("s0 1;", 1)
            .does("s0 1;s1 2;", 2).does("s0 1;s1 2;s2 3;", 3).does("e5;", -5000).does("s0 1;e5;", -5001)
            .does("s0 1;s1 2;e5;", -5002);
        says("A program consists of one or more instructions, numbered from 0").does("j0 0;".repeat(24), -5000)
            .does("s0 0;" + "j0 0;".repeat(22) + "e5;", -5023);
        // the greatest numbers: 40 instructions of three bytes
        says("numbered from 0").does("m0 1;" + "z0;".repeat(37) + "e5;", -5038).does("m0 1;" + "z0;".repeat(37) + "e0;", -8038);
        says("numbered from 0").due("make(0, 1) = 0").does("z0;".repeat(39) + "e0;", -8039).does("z0;".repeat(40), 40)
            .does("z0;".repeat(39) + "z6;", -2039);
    }

    private static void semicolons() {
        says("each of which ends with a semicolon").does("s0 1", -14).does("s0 1;s1 2", -19).does("s0 1 s1 2;", -15)
            .does("s0 1;;", -15).does(";", -10).does("s0 1:", -14).does("s0 1,", -14).does("s0;1;", -12).does("s0 1; ;", -16);
        String[] enough = {"m0 1", "e0", "s0 1", "c0 1", "v0 1", "w0 1 2", "l0 1 2", "d0 1 2", "b0 1 2", "z0", "j0 1"};
        for (String instruction : enough) {
            int length = instruction.length();
            says("each of which ends with a semicolon").does(instruction, -10 - length).does(instruction + " ", -11 - length)
                .does(instruction + " x", -11 - length).does(instruction + "x", -10 - length)
                .does(instruction + ";x", -11 - length);
        }
    }

    /** Every byte is tried as the first one, and as the first one of the second instruction. */
    private static void letters() {
        for (int first = 0; first <= 127; first++) {
            boolean letter = LETTERS.indexOf(first) >= 0;
            Script s = says("An instruction is a letter and numbers").due(1, "type", first);
            s.due(letter || first == 32 ? -11 : -10, "does").does("s0 1;" + (char) first, first == 32 ? 1 : letter ? -16 : -15);
            s.due("count(8) = 6");
        }
        // how many numbers each letter has
        for (int i = 0; i < LETTERS.length(); i++) {
            char letter = LETTERS.charAt(i);
            int due = "ez".indexOf(letter) >= 0 ? 1 : "wldb".indexOf(letter) >= 0 ? 3 : 2;
            for (int given = 0; given <= 4; given++) {
                String text = letter + " 9".repeat(given);
                Script s = says("An instruction is a letter and numbers");
                if (given < due) {
                    s.does(text + ";", -10 - text.length());
                } else if (given == due) {
                    s.does(text + ";", -2000);
                } else {
                    s.does(text + ";", -10 - 2 * (due + 1));
                }
            }
        }
    }

    private static void eachInstruction() {
        says("m r n (make)").does("m2 12;", 1).due("register(2, 0) = 2; piece(0, 0) = 12").does("m2 13;", -2000).does("m6 1;", -2000)
            .does("m2 0;", -2000).due("count(0) = 1");
        says("e r (end)").due("make(1, 2) = 0").does("e0;", -5000).does("e6;", -2000).does("e1;", 1).due("piece(0, 1) = 0").does("e1;", -7000);
        says("s r v (set)").does("s4 65535;", 1).due("register(4, 1) = 65535").does("s4 65536;", -2000).does("s6 0;", -2000)
            .does("s5 0;", 1).due("register(5, 0) = 1; register(5, 1) = 0; register(4, 1) = 65535");
        says("c r q (copy)").due("set(3, 7) = 7").does("c1 3;", 1).due("register(1, 1) = 7; register(3, 1) = 7").does("c3 0;", 1)
            .due("register(3, 0) = 0").does("c0 6;", -2000).does("c6 0;", -2000).does("c1 1;", 1);
        says("v r n (move)").due("set(0, 20) = 20").does("v0 12;", 1).due("register(0, 1) = 32").does("v0 -12;", 1)
            .due("register(0, 1) = 20").does("v0 13;", -2000).does("v0 -13;", -2000).does("v6 0;", -2000).does("v1 0;", -5000)
            .does("v0 0;", 1).due("register(0, 1) = 20");
        says("w r q n (store with w = n)").due("make(0, 3) = 0; set(1, 513) = 513").does("w0 1 1;", 1).due("at(0, 0) = 1; at(0, 1) = -1")
            .does("w0 1 2;", 1).due("at(0, 0) = 1; at(0, 1) = 2; at(0, 2) = -1").does("w0 1 3;", -2000).does("w0 1 0;", -2000)
            .does("w0 6 1;", -2000).does("w6 0 1;", -2000).does("w1 0 1;", -6000).does("w0 0 1;", -11000).does("w0 0 2;", 1)
            .due("at(0, 0) = 1000");
        says("l r q n (load with w = n)").due("make(0, 3) = 0; set(1, 513) = 513; store(0, 1, 2) = 0").does("l2 0 1;", 1)
            .due("register(2, 1) = 1").does("l2 0 2;", 1).due("register(2, 1) = 513").does("l2 0 3;", -2000).does("l2 0 0;", -2000)
            .does("l6 0 1;", -2000).does("l2 6 1;", -2000).does("l0 2 1;", -6000).does("l5 0 2;", 1).due("register(5, 1) = 513");
        says("b r q n (blit)").due("make(0, 12) = 0; make(1, 12) = 1; set(2, 5) = 5; store(1, 2, 1) = 0").does("b0 1 12;", 1)
            .due("at(0, 0) = 5; at(0, 1) = -1").does("b0 1 13;", -2000).does("b0 1 0;", -2000).does("b6 1 1;", -2000)
            .does("b0 6 1;", -2000).does("b0 2 1;", -6000).does("b0 3 1;", -5000).does("b1 1 1;", 1).due("at(1, 0) = 5");
        says("z r (freeze)").due("make(0, 3) = 0").does("z0;", 1).due("count(1) = 1; piece(0, 2) = 1").does("z6;", -2000).does("z1;", -5000)
            .does("z0;z0;", 2).due("count(1) = 1");
    }

    private static void comparison() {
        says("d r q t (compare r, q; t becomes the result").due("set(0, 4) = 4; set(1, 5) = 5").does("d0 1 2;", 1)
            .due("register(2, 0) = 1; register(2, 1) = 0").does("d1 0 2;", 1).due("register(2, 1) = 2; register(2, 2) = -1")
            .does("d1 1 5;", 1).due("register(5, 1) = 1").does("d0 1 0;", 1).due("register(0, 1) = 0; register(1, 1) = 5")
            .does("d0 1 1;", 1).due("register(1, 1) = 0; make(3, 4) = 0; copy(4, 3) = 2; move(4, 4) = 4").does("d3 4 3;", 1)
            .due("register(3, 0) = 1; register(3, 1) = 0; register(4, 2) = 4");
        says("it is BAD if t is no register, which is checked first").does("d0 0 6;", -2000).does("d0 0 5;", -5000).does("d6 0 0;", -2000)
            .does("d0 6 0;", -2000).does("d0 0 99999;", -2000).does("d6 6 6;", -2000).due("set(0, 1) = 1; make(1, 1) = 0; make(2, 1) = 1")
            .does("d0 1 6;", -2000).does("d0 1 5;", -11000).does("d1 2 6;", -2000).does("d1 2 5;", -12000).does("d0 0 6;", -2000)
            .does("d0 0 5;", 1);
    }

    private static void jump() {
        says("j r k (jump: r must be initialized, otherwise 1").does("j0 0;", -5000).does("j0 1;", -5000).does("j5 99999;", -5000)
            .does("j6 1;", -2000).does("s0 0;j1 1;", -5001);
        says("and a number, otherwise 7").due("make(0, 1) = 0").does("j0 1;", -11000).does("j0 0;", -11000).does("e0;j0 9;", -11001);
        says("if it is not 0, instruction k is next").does("s0 1;j0 3;e5;s1 4;", 3).due("register(1, 1) = 4")
            .does("s0 0;j0 3;e5;s1 4;", -5002).does("s0 0;j0 3;s2 8;s1 5;", 4).due("register(2, 1) = 8; register(1, 1) = 5")
            .does("s0 65535;j0 3;e5;s1 6;", 3).due("register(1, 1) = 6").does("s0 256;j0 3;e5;s1 7;", 3).due("register(1, 1) = 7")
            .does("s0 3;v0 -1;j0 1;", 7).does("s0 0;j0 0;", 2).does("s0 1;j0 00003;e5;s1 9;", 3).due("register(1, 1) = 9");
        // on to itself, to the instruction before it, and to instruction 0
        says("if it is not 0, instruction k is next").does("s0 1;j0 1;", -500).does("s0 2;s1 1;v0 -1;j0 2;", 6).due("register(0, 1) = 0")
            .due("set(2, 2) = 2").does("v2 -1;j2 0;", 4).due("register(2, 1) = 0");
    }

    private static void digits() {
        says("Numbers have 1 to 5 digits").does("s0 1;", 1).does("s0 12;", 1).does("s0 123;", 1).does("s0 1234;", 1).does("s0 12345;", 1)
            .due("register(0, 1) = 12345").does("s0 123456;", -18).does("s0 1234567;", -18).does("s0 ;", -13).does("s ;", -12)
            .does("s0 00000;", 1).does("s0 000000;", -18).does("s00000 5;", 1).does("s000000 5;", -16).does("s00001 00020;", 1)
            .due("register(1, 1) = 20; register(0, 1) = 5").does("w0 1 00001;", -6000).does("w0 1 000001;", -20)
            .does("v0 -00001;", 1).does("v0 -000001;", -19).does("j5 99999;", -5000).does("j5 100000;", -18);
    }

    private static void minusSigns() {
        says("only n of v may have a minus sign before it.").due("set(0, 50) = 50").does("v0 -1;", 1).due("register(0, 1) = 49")
            .does("v0-1;", 1).due("register(0, 1) = 48").does("v0 -0;", 1).does("v0 -00012;", 1).due("register(0, 1) = 36")
            .does("v-0 1;", -11).does("v -0 1;", -12).does("-v0 1;", -10).does("v0 1-;", -14).does("v0 --1;", -14)
            .does("v0 -1-1;", -15).does("v0 1 -1;", -15).does("v0 - 1;", -14).does("v0 -;", -14).does("v0 +1;", -13);
        // each number of each other letter
        for (int i = 0; i < LETTERS.length(); i++) {
            char letter = LETTERS.charAt(i);
            int numbers = "ez".indexOf(letter) >= 0 ? 1 : "wldb".indexOf(letter) >= 0 ? 3 : 2;
            for (int before = 0; before < numbers; before++) {
                if (letter != 'v' || before != 1) {
                    String text = letter + "1 ".repeat(before);
                    says("only n of v may have a minus sign before it.").does(text + "-1", -10 - text.length())
                        .does(text + "-", -10 - text.length());
                }
            }
            String all = letter + "1 ".repeat(numbers);
            says("only n of v may have a minus sign before it.").does(all + "-1;", -10 - all.length());
        }
    }

    private static void spaces() {
        says("Spaces (32) may stand anywhere but within a number").does(" s0 1;", 1).does("s 0 1;", 1).does("s0  1;", 1).does("s0 1 ;", 1)
            .does("s0 1; ", 1).does("s0 1; s0 2;", 2).does("   s   0   1   ;   s   1   2   ;   ", 2).due("register(1, 1) = 2")
            .does("v 0 -1 ;", 1).due("register(0, 1) = 0").does("e 5 ;", -5000).does("w 0 0 1 ;", -6000)
            .does("s0 1 2;", -15).does("e1 0;", -13).does("s0 6 5;", -15).does("w0 1 1 1;", -17);
        says("or between a minus sign and the digits").due("set(0, 9) = 9").does("v0 - 1;", -14).does("v0- 1;", -13).does("v0  -1;", 1)
            .does("v0-1 ;", 1).does("v0 -  1;", -14).does("v0 -", -14).does("v0 - ", -14);
        says("they are needed only between two numbers.").does("s0 7;s1 8;c2 1;d0 1 3;", 4).due("register(3, 1) = 0").does("s12;", -13)
            .does("s01;", -13).does("c01;", -13).does("v0-1;", 1).due("register(0, 1) = 6").does("w001;", -14).does("d01 2;", -15)
            .does("m0 1;z0;e0;", -8002);
        // no other byte is a space
        for (int other : new int[] {0, 9, 10, 11, 12, 13, 31, 33, 95, 127}) {
            String sign = String.valueOf((char) other);
            says("Spaces (32)").does(sign + "s0 1;", -10).does("s" + sign + "0 1;", -11).does("s0" + sign + "1;", -12)
                .does("s0 1" + sign + ";", -14).does("s0 1;" + sign, -15);
        }
    }

    private static void errorPosition() {
        says("The error position is the index, from 0 on, of the first byte that is not allowed at its place").does("x", -10)
            .does(" x", -11).does("sx", -11).does("s0x", -12).does("s0 x", -13).does("s0 1x", -14).does("s0 1 x", -15)
            .does("s0 1;x", -15).does("xs0 1;", -10).does("s0 1;xy", -15).does("s0;x", -12).does("  s  0  x", -18)
            .does("s0 1;s0 1;s0 1;x", -25).does("v0 -x", -14).does("v0 1x", -14).does("ss0 1;", -11);
        // every byte at each place of an instruction
        for (int c = 0; c <= 127; c++) {
            boolean digit = c >= '0' && c <= '9';
            boolean space = c == ' ';
            String sign = String.valueOf((char) c);
            says("of the first byte that is not allowed at its place").does("s" + sign, digit || space ? -12 : -11)
                .does("s0" + sign, digit || space ? -13 : -12).does("s0 " + sign, digit || space ? -14 : -13)
                .does("v0 -" + sign, digit ? -15 : -14).does("v0" + sign, digit || space || c == '-' ? -13 : -12)
                .does("v0 " + sign, digit || space || c == '-' ? -14 : -13).does("e5" + sign, c == ';' ? -5000 : digit || space ? -13 : -12)
                .does("e5 " + sign, c == ';' ? -5000 : space ? -14 : -13);
        }
        says("(a sixth digit, too)").does("s0 123456;", -18).does("s0 12345;", 1).does("s123456 0;", -16).does("e000000;", -16)
            .does("v0 -123456;", -19).does("v0-123456;", -18).does("d0 0 123456;", -20).does("s0 1;s0 000000;", -23);
        says("or the length of the text if it ends too early (also if it is empty or has only spaces).").does("", -10).does(" ", -11)
            .does("     ", -15).does("s", -11).does("s ", -12).does("s0", -12).does("s0 ", -13).does("s0 1", -14).does("s0 1  ", -16)
            .does("v0 -", -14).does("s0 1;s", -16).does("e", -11).does("e0", -12).does("s0 12345", -18).does("s0 1; ", 1)
            .due("register(0, 1) = 1").does("w0 0", -14).does("w0 0 ", -15).does("w0 0 1", -16);
        says("(also if it is empty or has only spaces)").due("does() = -10; clear() = 0; does() = -10").does(" ".repeat(120), -130);
    }

    /** Nothing of a text that was no program is left for the next one. */
    private static void textAfterText() {
        for (String wrong : new String[] {"v0 -", "v0 -x", "v0 - 1;", "v0-", "v0 -1", "s", "s1", "s12345", "s1 ", "d1 2 3", "s123456",
            "s0 1;s1", "e", "x", "", "s1 2 3"}) {
            Script s = says("The error position is the index, from 0 on, of the first byte that is not allowed at its place");
            s.typed(wrong).check("does() is refused", s.ask("does") <= -10 ? 1 : 0, 1);
            s.does("s1 5;", 1).due("register(1, 1) = 5").typed(wrong).check("does() is refused", s.ask("does") <= -10 ? 1 : 0, 1);
            s.does(" 1;", -11).does("", -10).does(";", -10).typed(wrong).check("does() is refused", s.ask("does") <= -10 ? 1 : 0, 1);
            s.does("v1 3;e5;", -5001).does("v1 3;", 1).due("register(1, 1) = 8");
        }
    }

    private static void carriedOut() {
        says("A program is carried out from instruction 0 on, one after the other except for jumps, until it is after the last one")
            .does("s0 1;c1 0;v1 1;c2 1;v2 1;", 5).due("register(0, 1) = 1; register(1, 1) = 2; register(2, 1) = 3")
            .does("s5 1;", 1).does("s5 2;s5 3;", 2).due("register(5, 1) = 3").does("c0 1;c1 2;c2 5;", 3)
            .due("register(0, 1) = 2; register(1, 1) = 3; register(2, 1) = 3");
        says("until it is after the last one").does("s0 1;j0 3;s1 1;s2 1;s3 1;", 4).due("register(1, 0) = 0; register(3, 1) = 1");
    }

    private static void jumpAway() {
        says("a jump to an instruction that does not exist also ends it.").does("s0 1;j0 2;", 2).does("s0 1;j0 3;s1 1;", 2)
            .due("register(1, 0) = 0; register(0, 1) = 1; count(9) = 2").does("s0 1;j0 2;s1 1;", 3).due("register(1, 1) = 1")
            .does("s0 7;j0 40;e5;", 2).does("s0 8;j0 41;e5;", 2).does("s0 9;j0 99999;e5;", 2).does("s0 1;j0 60;e5;", 2)
            .due("register(0, 1) = 1; count(9) = 5").does("s0 0;j0 99999;e5;", -5002);
    }

    private static void steps() {
        says("Each instruction that is begun is a step.").does("s0 1;", 1).does("s0 1;s0 2;", 2).does("s0 0;j0 5;", 2).does("s0 1;j0 3;e5;", 2)
            .does("s0 2;v0 -1;j0 1;", 5).does("s0 3;v0 -1;j0 1;s1 1;", 8).due("budget(1) = 40").does("s0 1;", 1).does("s0 1;s0 1;", -500)
            .does("e5;", -5000).due("budget(2) = 1").does("s0 1;e5;", -5001).does("s0 1;s0 1;e5;", -500);
    }

    private static void budget() {
        says("The budget is the greatest number of steps, 1 to 60, at first 40.").due("count(3) = 40")
            .does("s0 13;v0 -1;v1 0;j0 1;", -5002).due("set(1, 0) = 0").does("s0 13;v0 -1;v1 0;j0 1;", 40)
            .does("s0 1;s0 13;v0 -1;v1 0;j0 2;", -500).due("budget(0) = -2; budget(61) = -2; count(3) = 40; budget(41) = 40")
            .does("s0 1;s0 13;v0 -1;v1 0;j0 2;", 41).due("budget(60) = 41").does("s0 1;s0 1;s0 19;v0 -1;v1 0;j0 3;", 60)
            .does("s0 20;v0 -1;v1 0;j0 1;", -500);
        for (int v = 1; v <= 60; v++) {
            says("The budget is the greatest number of steps, 1 to 60").due(40, "budget", v).does(programOf(v), v)
                .due("count(9) = 2; set(1, 7) = 7").does(programOf(v + 1), -500).due("register(1, 1) = 7; count(9) = 3");
        }
    }

    /** A program that has so many steps. */
    private static String programOf(int steps) {
        if (steps < 3) {
            return "s1 0;".repeat(steps);
        }
        int before = steps % 2 == 1 ? 0 : 1;
        return "s1 0;".repeat(before) + "s0 " + (steps - before - 1) / 2 + ";v0 -1;j0 " + (before + 1) + ";";
    }

    private static void typePromise() {
        promise(22, "Appends a byte to the text buffer.").due("type(115) = 1; type(48) = 2; type(32) = 3; type(55) = 4; type(59) = 5; does() = 1")
            .due("register(0, 1) = 7; type(101) = 6; does() = -16; type(53) = 7; type(59) = 8; does() = -5001; count(8) = 8");
        Script s = promise(22, "`c`: the byte, 0 to 127");
        for (int c = 0; c < 120; c++) {
            s.due(c + 1, "type", c);
        }
        s.due("clear() = 120");
        for (int c = 120; c <= 127; c++) {
            s.due(c - 119, "type", c);
        }
        s.all(-2, "type(-1); type(128); type(255); type(256); type(2147483647); type(-2147483648)").due("count(8) = 8; count(4) = 6");
        Script full = promise(22, "Returns how many bytes it holds; or BAD, FULL if it holds 120.").due("type(-1) = -2");
        for (int i = 1; i <= 119; i++) {
            full.due(i, "type", 59);
        }
        full.due("type(128) = -2; type(59) = 120; type(59) = -4; type(128) = -2; type(127) = -4; count(6) = 2; count(4) = 3")
            .due("count(8) = 120; clear() = 120; type(59) = 1; count(9) = 0");
    }

    private static void clearPromise() {
        promise(23, "Empties the text buffer.").due("type(115) = 1; clear() = 1; count(8) = 0; does() = -10; type(101) = 1; does() = -11")
            .due("clear() = 1").does("s0 3;", 1).due("clear() = 5; does() = -10; register(0, 1) = 3; count(9) = 1");
        promise(23, "Returns how many bytes it held.").due("clear() = 0; type(0) = 1; type(0) = 2; clear() = 2; clear() = 0")
            .typed("x".repeat(119)).due("clear() = 119").typed("x".repeat(120)).due("clear() = 120; clear() = 0; count(4) = 0");
    }

    private static void doesPromise() {
        promise(24, "Carries out the program in the text buffer, which stays.").due("set(0, 1) = 1").typed("v0 2;")
            .due("does() = 1; count(8) = 5; does() = 1; register(0, 1) = 5; does() = 1; register(0, 1) = 7; clear() = 5");
        promise(24, "which stays").typed("v0 2;").due("does() = -5000; count(8) = 5; set(0, 9) = 9; does() = 1; back() = 1; does() = 1")
            .due("register(0, 1) = 11; type(120) = 6; does() = -15; count(8) = 6");
        String words = "If it ends otherwise than by being after the last instruction or by a jump to one that does not exist, nothing is changed.";
        String refused = "m0 4;s1 9;w0 1 2;z0;m2 3;e2;c3 1;l4 0 1;b2 0 1;";
        promise(24, words).due("set(1, 5) = 5; make(5, 2) = 0; store(5, 1, 1) = 0").does(refused, -7008)
            .due("register(0, 0) = 0; register(1, 1) = 5; count(0) = 1; count(1) = 0; piece(0, 2) = 0; at(0, 0) = 5; count(9) = 3")
            .does("s2 1;v5 1;w5 1 1;j2 0;", -9002).due("at(0, 1) = -1; register(5, 2) = 0; register(2, 0) = 0; count(9) = 3");
        promise(24, words).does("s0 1;s1 1;j0 1;", -500).due("register(0, 0) = 0; register(1, 0) = 0; count(9) = 0")
            .does("s0 1;s1 1;m2 13;", -2002).due("register(0, 0) = 0; count(9) = 0").does("s0 1;m2 1;s6 1;", -2002)
            .due("count(0) = 0").does("s0 1;m2 1;j0 9;s6 1;", 3).due("count(0) = 1; count(9) = 1; register(0, 1) = 1")
            .does("s0 2;z2;j5 9;", -5002).due("count(1) = 0; piece(0, 2) = 0; register(0, 1) = 1; like(0) = -1");
    }

    private static void doesErrors() {
        promise(24, "Returns how many steps it has").does("s0 1;", 1).does("s0 1;s0 1;", 2).does("s0 4;v0 -1;j0 1;", 9).does("z0;", -6000);
        promise(24, "-10 minus the error position if the text is not a program").does("", -10).does("s0 1", -14).does("s0 1;;", -15)
            .does("s0 1;".repeat(23) + "x", -125).does("?" + " ".repeat(119), -10).does(" ".repeat(119) + "?", -129);
        promise(24, "-500 if a step more than the budget would be begun").due("budget(5) = 40").does("s0 1;".repeat(5), 5).does("s0 1;".repeat(6), -500)
            .does("s0 1;".repeat(5) + "e5;", -500).does("s0 1;".repeat(4) + "e5;", -5004).does("s0 1;s0 1;s0 1;s0 1;j0 99;", 5)
            .does("s0 1;s0 1;s0 1;s0 1;j0 0;", -500).does("s0 1;s0 1;s0 1;s0 1;j0 5;", 5);
        String words = "if instruction n returns an error, -2000 - n for BAD";
        promise(24, words).does("m6 1;", -2000).does("s0 1;m0 0;", -2001).does("s0 1;s0 1;s0 70000;", -2002).does("s0 1;v0 99;", -2001)
            .does("s0 1;".repeat(23) + "e9;", -2023);
        promise(24, "-3000 - n for FULL").does("m0 1;".repeat(10), 10).does("m0 1;", -3000).does("s0 1;m1 1;", -3001).does("s0 1;m6 1;", -2001)
            .does("s0 1;m1 13;", -2001).due("count(6) = 0; count(0) = 10");
        promise(24, "-3000 - n for FULL").does("m0 1;z0;m0 2;z0;m0 3;z0;m0 4;z0;m0 5;z0;m0 6;z0;m0 7;z0;m0 8;z0;", 16).does("m0 9;z0;", -3001)
            .due("count(1) = 8; count(0) = 8; count(6) = 0").does("m0 8;z0;", 2);
        promise(24, "and -4000 - 1000 * reason - n if it is undefined.").does("e0;", -5000).does("s0 1;e0;", -6001)
            .does("m0 1;c1 0;e0;e1;", -7003).does("m0 1;z0;e0;", -8002).does("m0 1;v0 1;v0 1;", -9002).does("m0 2;w0 0 2;l1 0 1;", -10002)
            .does("m0 2;s1 1;w0 0 1;", -11002).does("m0 1;m1 1;d0 1 0;", -12002).does("m0 1;v0 1;e0;", -13002)
            .does("z5;", -5000).does("s0 1;".repeat(20) + "z0;", -6020).due("count(7) = 0; count(0) = 0; count(9) = 0");
    }
}
