/** Promises 1 to 5: a new object, the text and what can be laid. */
final class EdgesOfTexts {
    private static final int BAD = Sentences.BAD, NO = Sentences.NO, FULL = Sentences.FULL, NONE = Sentences.NONE;
    private final Sentences s;

    EdgesOfTexts(Sentences sentences) {
        s = sentences;
    }

    void all() {
        constantsOfTheFace();
        newObjectIsEmpty();
        newObjectIsLaidAtFirst();
        objectAnswers512Calls();
        writeOfLetters32To126();
        writeOf200Letters();
        writeRefused();
        wipeOfNoneAndOfAll();
        faultOfNone();
        faultOfTheFirstItem();
        faultOfNumbersAndSigns();
        faultOfCells();
        faultOfShips();
        faultOfWinds();
        faultOfPosts();
        faultOfCrew();
        faultOfKinds();
        faultOfNoses();
        layOfOneAndOne();
        layWithoutShip();
        layWithoutWind();
        layOfHowMany();
        layForgetsAllButTheText();
        layRefused();
    }

    private void constantsOfTheFace() {
        s.sentence(1, "public static final int BAD = -1, NO = -2, FULL = -3, NONE = -4;");
        s.due("BAD", -1, SmellMoorings.BAD);
        s.due("NO", -2, SmellMoorings.NO);
        s.due("FULL", -3, SmellMoorings.FULL);
        s.due("NONE", -4, SmellMoorings.NONE);
    }

    private void newObjectIsEmpty() {
        s.sentence(1, "As told; THE TEXT is empty.");
        SmellMoorings ship = new SmellMoorings();
        s.due("count(12)", 0, ship.count(12));
        s.due("fault()", NONE, ship.fault());
        s.due("lay()", NO, ship.lay());
        s.due("wipe()", 0, ship.wipe());
        s.due("write('s')", 1, ship.write('s'));
    }

    private void newObjectIsLaidAtFirst() {
        String first = "s4,4,2;w2,1;p1,4,0;p7,2,1;p4,7,2;p8,8,0;c0,0,6;c1,1,3;c2,2,1;c3,0,5;c0,1,9;";
        s.sentence(1, "at first " + first);
        SmellMoorings ship = new SmellMoorings();
        SmellMoorings laid = Due.laid(first);
        laid.wipe();
        for (int what = 0; what <= 12; what++) {
            s.due("count(" + what + ")", laid.count(what), ship.count(what));
        }
        for (int i = 0; i < 4 * 4; i++) {
            s.due("post(" + i / 4 + ", " + i % 4 + ")", laid.post(i / 4, i % 4), ship.post(i / 4, i % 4));
        }
        for (int i = 0; i < 5 * 6; i++) {
            s.due("crew(" + i / 6 + ", " + i % 6 + ")", laid.crew(i / 6, i % 6), ship.crew(i / 6, i % 6));
        }
        s.due("posts", 4, ship.count(0));
        s.due("of the crew", 5, ship.count(1));
        s.due("the last of the crew: nose", 9, ship.crew(4, 2));
    }

    private void objectAnswers512Calls() {
        s.sentence(1, "An object is used for at most 512 calls after it has been made; what later calls answer is free.");
        SmellMoorings ship = new SmellMoorings();
        int force = 1;
        for (int call = 1; call <= 510; call++) {
            s.due("call " + call + ": wind", force, ship.wind(call % 5, call % 21));
            force = call % 21;
        }
        s.due("call 511: undo()", 7, ship.undo());
        s.due("call 512: count(7)", 509 % 21, ship.count(7));
    }

    private void writeOfLetters32To126() {
        s.sentence(2, "A letter (32 to 126, as in ASCII) comes behind THE TEXT");
        SmellMoorings ship = new SmellMoorings();
        s.due("write(31)", BAD, ship.write(31));
        s.due("write(32)", 1, ship.write(32));
        s.due("write(126)", 2, ship.write(126));
        s.due("write(127)", BAD, ship.write(127));
        int length = 2;
        for (int letter = 32; letter <= 126; letter++) {
            s.due("write(" + letter + ")", ++length, ship.write(letter));
        }
    }

    private void writeOf200Letters() {
        s.sentence(2, "A TEXT is letters (200 at most)");
        SmellMoorings ship = new SmellMoorings();
        String text = "s0,0,0;".repeat(27) + "w0,0;w00,0;";
        for (int i = 0; i < 200; i++) {
            s.due("write of letter " + (i + 1), i + 1, ship.write(text.charAt(i)));
        }
        s.due("write of letter 201", FULL, ship.write('s'));
        s.due("fault() of 200 letters", NONE, ship.fault());
        s.due("wipe()", 200, ship.wipe());
        for (int i = 0; i < 200; i++) {
            s.due("letter " + (i + 1) + " of the next text", i + 1, ship.write(i < 199 ? text.charAt(i) : ','));
        }
        s.due("letter 201 of the next text", FULL, ship.write(';'));
        s.due("fault(): the last letter counts", 194, ship.fault());
    }

    private void writeRefused() {
        s.sentence(2, "how long it is. BAD; FULL.");
        SmellMoorings ship = new SmellMoorings();
        s.refused(ship, BAD, () -> ship.write(31), () -> ship.write(127), () -> ship.write(-1), () -> ship.write(0),
            () -> ship.write(10), () -> ship.write(115 + 256), () -> ship.write(Integer.MIN_VALUE),
            () -> ship.write(Integer.MAX_VALUE));
        Due.writeAll(ship, "~".repeat(200));
        s.refused(ship, FULL, () -> ship.write(32), () -> ship.write(126), () -> ship.write('~'));
        s.refused(ship, BAD, () -> ship.write(31), () -> ship.write(127));
    }

    private void wipeOfNoneAndOfAll() {
        s.sentence(3, "THE TEXT is empty: how long it was.");
        SmellMoorings ship = new SmellMoorings();
        s.due("wipe() of none", 0, ship.wipe());
        s.due("wipe() again", 0, ship.wipe());
        ship.write('s');
        s.due("wipe() of one", 1, ship.wipe());
        Due.writeAll(ship, "s0,0,0;".repeat(29).substring(0, 200));
        s.due("wipe() of 200", 200, ship.wipe());
        s.due("count(12)", 0, ship.count(12));
        s.due("fault() of what is left", NONE, ship.fault());
        Due.writeAll(ship, "w0,0");
        s.due("fault(): what was wiped does not end the item", 0, ship.fault());
    }

    private void faultOfNone() {
        s.sentence(4, "FAULT. NONE.");
        s.dueFault("", NONE);
        s.dueFault("s0,0,0;", NONE);
        s.dueFault("w0,0;", NONE);
        s.dueFault("p0,0,0;", NONE);
        s.dueFault("c0,0,1;", NONE);
        s.dueFault("s4,4,2;w2,1;p1,4,0;p7,2,1;p4,7,2;p8,8,0;c0,0,6;c1,1,3;c2,2,1;c3,0,5;c0,1,9;", NONE);
    }

    private void faultOfTheFirstItem() {
        s.sentence(4, "FAULT: the place (from 0 on) of the first letter of the first ITEM that is not so.");
        s.dueFault("x", 0);
        s.dueFault("s0,0,0;x", 7);
        s.dueFault("s9,0,0;p9,0,0;", 0);
        s.dueFault("w0,0;p0,9,0;c9,0,1;", 5);
        s.dueFault("p0,0,0;c0,0,1;w4,20;s8,8,20;s8,8,21;", 28);
        s.dueFault("s00,00,00;;", 10);
        s.dueFault("s0,0,0;".repeat(28) + "w0,0", 196);
        s.dueFault("w0,0;".repeat(39) + "w0,0 ", 195);
        SmellMoorings ship = Due.laid("s1,2,3;w3,4;p5,6,1;c1,2,7;");
        ship.wipe();
        Due.writeAll(ship, "s7,7,7;w1,1;p0,0,0;c0,0,1;x");
        s.refused(ship, 26, ship::fault);
    }

    private void faultOfNumbersAndSigns() {
        s.sentence(4, "ITEMS one behind the other, each a letter, then numbers (one or two figures) parted by , and a ; behind"
            + " the last one");
        for (String text : new String[] {"s1,02,3;", "s01,2,03;", "s8,8,09;", "w04,09;", "p08,08,05;", "c03,05,09;"}) {
            s.dueFault(text, NONE);
        }
        String[] none = {"s,0,0;", "s0,,0;", "s0,0,;", "w,0;", "w0,;", "p,,;", "c0,0,;"};
        String[] threeFigures = {"s000,0,0;", "s0,001,0;", "s0,0,020;", "w000,0;", "w0,010;", "p001,1,1;", "c0,0,001;"};
        String[] parted = {"s0;0;0;", "s0.0.0;", "s0 0,0;", "s0,0 0;", "s0, 0,0;", "s 0,0,0;", "s0,0,0 ;", "s-1,0,0;", "s+1,0,0;",
            "w0;0;", "s0,0a,0;"};
        String[] ended = {"s0,0,0", "s0,0,0,", "s0,0,0:", "s0,0,", "s0,0", "s0,", "s0", "s", "w0,0", "w0,0,", "p0,0,0", "c0,0,1,"};
        String[] tooFew = {"s;", "s0;", "s0,0;", "w0;", "p0,0;", "c0,1;"};
        String[] tooMany = {"s0,0,0,0;", "w0,0,0;", "p0,0,0,0;", "c0,0,1,1;"};
        String[] noLetter = {";", "0,0,0;", " w0,0;", "S0,0,0;", "W0,0;", "x0,0;", "o0,0,1;", "q0,0,1;", "b0,0,1;", "d0,0,1;",
            "r0,0,0;", "t0,0,0;", "v0,0;", "ss0,0,0;"};
        // The signs on either side of the figures, of , and of ;
        String[] beside = {"s/,0,0;", "s:,0,0;", "s0,/,0;", "s0,0,:;", "s0,0,1/;", "s0,0,1:;", "s/1,0,0;", "s:0,0,0;", "w0,/9;",
            "w0,1:;", "s0+0,0;", "s0-0,0;", "s0,0,0<", "s0,0,0:"};
        for (String[] faults : new String[][] {none, threeFigures, parted, ended, tooFew, tooMany, noLetter, beside}) {
            for (String text : faults) {
                s.dueFault(text, 0);
                s.dueFault("w4,20;" + text, 6);
            }
        }
    }

    private void faultOfCells() {
        s.sentence(4, "THE FIELD has CELLS x, y from 0 to 8, y downwards.");
        for (String cell : new String[] {"0,0", "8,0", "0,8", "8,8"}) {
            s.dueFault("s" + cell + ",0;p" + cell + ",0;", NONE);
        }
        for (String cell : new String[] {"9,0", "0,9", "9,9", "10,0", "0,10", "99,0", "0,99"}) {
            s.dueFault("s" + cell + ",0;", 0);
            s.dueFault("p" + cell + ",0;", 0);
        }
        SmellMoorings ship = Due.laid("s0,0,0;w3,1;p0,0,0;c0,5,1;");
        s.due("pull(1): down is where y is more", 501, ship.pull(1));
        s.due("behind(40, 1)", 8, ship.behind(40, 1));
    }

    private void faultOfShips() {
        s.sentence(4, "sX,Y,H the SHIP is at X, Y, and as heavy as H (0 to 20)");
        s.dueFault("s0,0,0;", NONE);
        s.dueFault("s8,8,20;", NONE);
        s.dueFault("s9,0,0;", 0);
        s.dueFault("s0,9,0;", 0);
        s.dueFault("s10,0,0;", 0);
        s.dueFault("s0,99,0;", 0);
        s.dueFault("s8,8,21;", 0);
        s.dueFault("s0,0,99;", 0);
    }

    private void faultOfWinds() {
        s.sentence(4, "wD,F the WIND goes to D (0 nowhere, 1 up, 2 right, 3 down, 4 left) with force F (0 to 20)");
        s.dueFault("w0,0;w1,20;w2,0;w3,20;w4,20;", NONE);
        s.dueFault("w5,0;", 0);
        s.dueFault("w99,0;", 0);
        s.dueFault("w0,21;", 0);
        s.dueFault("w4,99;", 0);
    }

    private void faultOfPosts() {
        s.sentence(4, "pX,Y,S a POST at X, Y with SMELL S (0 to 5); 5 at most, 0, 1, ..");
        s.dueFault("p0,0,0;p8,8,5;", NONE);
        s.dueFault("p9,0,0;", 0);
        s.dueFault("p0,9,0;", 0);
        s.dueFault("p0,0,6;", 0);
        s.dueFault("p0,0,99;", 0);
        s.dueFault("p4,4,0;".repeat(5), NONE);
        s.dueFault("p4,4,0;".repeat(6), 35);
        s.dueFault("p4,4,0;".repeat(5) + "c0,0,1;p4,4,0;c0,0,0;", 42);
        SmellMoorings ship = Due.laid("p0,1,2;p1,2,3;c0,0,1;p2,3,4;p3,4,5;p4,5,0;");
        s.due("count(0)", 5, ship.count(0));
        for (int p = 0; p < 5; p++) {
            s.due("post(" + p + ", 0)", p, ship.post(p, 0));
            s.due("post(" + p + ", 1)", p + 1, ship.post(p, 1));
            s.due("post(" + p + ", 2)", (p + 2) % 6, ship.post(p, 2));
        }
    }

    private void faultOfCrew() {
        s.sentence(4, "drawn by SMELL S (0 to 5), with a NOSE N (1 to 9); 7 at most, 0, 1, ..");
        s.dueFault("c0,0,1;c0,5,9;", NONE);
        s.dueFault("c0,6,1;", 0);
        s.dueFault("c0,99,1;", 0);
        s.dueFault("c1,1,1;".repeat(7), NONE);
        s.dueFault("c1,1,1;".repeat(8), 49);
        s.dueFault("c1,1,1;".repeat(7) + "p0,0,0;c1,1,1;p9,9,9;", 56);
        SmellMoorings ship = Due.laid("c0,0,1;c1,1,2;c2,2,3;p0,0,0;c3,3,4;c0,4,5;c1,5,6;c2,0,7;");
        s.due("count(1)", 7, ship.count(1));
        for (int c = 0; c < 7; c++) {
            s.due("crew(" + c + ", 0)", c % 4, ship.crew(c, 0));
            s.due("crew(" + c + ", 1)", c % 6, ship.crew(c, 1));
            s.due("crew(" + c + ", 2)", c + 1, ship.crew(c, 2));
        }
    }

    private void faultOfKinds() {
        s.sentence(4, "cK,S,N one of the CREW of KIND K (0 PLAIN, 1 COOK, 2 HOMESICK, 3 NUMB)");
        s.dueFault("c0,0,1;c3,0,1;", NONE);
        s.dueFault("c4,0,1;", 0);
        s.dueFault("c10,0,1;", 0);
        s.dueFault("c99,0,1;", 0);
    }

    private void faultOfNoses() {
        s.sentence(4, "with a NOSE N (1 to 9)");
        s.dueFault("c0,0,1;c0,0,9;", NONE);
        s.dueFault("c0,0,0;", 0);
        s.dueFault("c0,0,00;", 0);
        s.dueFault("c0,0,10;", 0);
        s.dueFault("c0,0,99;", 0);
    }

    private void layOfOneAndOne() {
        s.sentence(5, "LAID is a TEXT without FAULT, of a POST and one of the CREW at least (NO else;");
        String[] laid = {"p0,0,0;c0,0,1;", "c3,5,9;p8,8,5;", "s0,0,0;p0,0,0;w0,0;c0,0,1;"};
        for (String text : laid) {
            SmellMoorings ship = new SmellMoorings();
            Due.writeAll(ship, text);
            s.due("lay() of \"" + text + "\"", 1, ship.lay());
            s.due("posts", 1, ship.count(0));
            s.due("of the crew", 1, ship.count(1));
        }
        String[] not = {"", "p0,0,0;", "c0,0,1;", "s0,0,0;w0,0;", "p0,0,0;".repeat(5), "c0,0,1;".repeat(7), "p0,0,0;c0,0,1",
            "p0,0,0;c0,0,0;", "x;p0,0,0;c0,0,1;", "p0,0,0;c0,0,1;p0,0,6;", "p0,0,0;".repeat(6) + "c0,0,1;",
            "p0,0,0;" + "c0,0,1;".repeat(8)};
        for (String text : not) {
            SmellMoorings ship = new SmellMoorings();
            Due.writeAll(ship, text);
            s.due("lay() of \"" + text + "\"", NO, ship.lay());
            s.due("posts", 4, ship.count(0));
            s.due("of the crew", 5, ship.count(1));
        }
    }

    private void layWithoutShip() {
        s.sentence(5, "(4, 4, 2 without; of several the last one counts)");
        SmellMoorings ship = Due.laid("s1,7,9;p0,0,0;c0,0,1;s8,0,20;s0,8,0;");
        s.due("the last of three: x", 0, ship.count(3));
        s.due("the last of three: y", 8, ship.count(4));
        s.due("the last of three: heavy", 0, ship.count(5));
        ship.wipe();
        Due.writeAll(ship, "w1,9;p0,0,0;c0,0,1;");
        s.due("lay()", 1, ship.lay());
        s.due("without: x", 4, ship.count(3));
        s.due("without: y", 4, ship.count(4));
        s.due("without: heavy", 2, ship.count(5));
    }

    private void layWithoutWind() {
        s.sentence(5, "(0, 0 without; of several the last one counts)");
        SmellMoorings ship = Due.laid("w1,20;p0,0,0;c0,0,1;w2,0;w4,13;");
        s.due("the last of three: to", 4, ship.count(6));
        s.due("the last of three: force", 13, ship.count(7));
        ship.wipe();
        Due.writeAll(ship, "s1,1,9;p0,0,0;c0,0,1;");
        s.due("lay()", 1, ship.lay());
        s.due("without: to", 0, ship.count(6));
        s.due("without: force", 0, ship.count(7));
    }

    private void layOfHowMany() {
        s.sentence(5, "`int lay()`: LAID: how many are of the CREW; HOUR 0");
        for (int crew = 1; crew <= 7; crew++) {
            SmellMoorings ship = new SmellMoorings();
            ship.pass(20);
            ship.stands();
            Due.writeAll(ship, "p0,0,0;" + "c0,0,1;".repeat(crew));
            s.due("lay()", crew, ship.lay());
            s.due("count(1)", crew, ship.count(1));
            s.due("count(2)", 0, ship.count(2));
        }
    }

    private void layForgetsAllButTheText() {
        s.sentence(5, "HOUR 0, nothing SEEN, UNDONE, KEPT (THE TEXT stays)");
        SmellMoorings ship = Due.laid("p0,0,0;p8,8,1;c0,0,1;");
        for (int i = 0; i < 9; i++) {
            ship.wind(1, i);
            ship.seen(0, 0, 0);
            ship.keep();
        }
        ship.take(1);
        ship.stands();
        s.due("lay()", 1, ship.lay());
        s.due("count(9)", 0, ship.count(9));
        s.due("count(10)", 0, ship.count(10));
        s.due("count(11)", 0, ship.count(11));
        s.due("count(12)", 21, ship.count(12));
        s.due("post(1, 3)", 0, ship.post(1, 3));
        s.due("undo()", NO, ship.undo());
        s.due("back()", NO, ship.back());
        s.due("forget()", 0, ship.forget());
        s.due("lay() of the text that stays", 1, ship.lay());
        s.due("keep()", 1, ship.keep());
        s.due("seen(8, 8, 0)", 1, ship.seen(8, 8, 0));
    }

    private void layRefused() {
        s.sentence(5, "KEPT (THE TEXT stays). NO.");
        for (String text : new String[] {"", "p0,0,0;", "s0,0,0;w1,9;c0,0,1;", "s0,0,0;w1,9;p0,0,0;c0,0,1;x"}) {
            SmellMoorings ship = new SmellMoorings();
            ship.pass(3);
            ship.take(2);
            ship.keep();
            ship.seen(1, 2, 3);
            Due.writeAll(ship, text);
            s.refused(ship, NO, ship::lay, ship::lay);
        }
    }
}
