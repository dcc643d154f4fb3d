/** Promises 15 to 21: what comes. */
final class EdgesOfComing {
    private static final int BAD = Sentences.BAD, NONE = Sentences.NONE;

    /** It goes for 42 hours, through as many cells, before it stays. */
    private static final String GOES_42_HOURS = "s8,7,0;w1,1;p4,8,0;p8,5,2;p8,0,2;p0,1,3;p0,6,3;"
        + "c2,3,4;c0,3,4;c3,0,1;c0,2,8;c0,2,9;c2,2,7;c2,3,3;";
    /** No post more brings it to 2, 8 in less than 40 hours, nor to 1, 8 in less than 41. */
    private static final String COMES_IN_40_HOURS = "s8,0,0;w3,1;p8,7,0;p8,3,0;p0,3,2;p0,1,2;p8,5,1;"
        + "c3,3,9;c2,2,6;c2,2,2;c2,1,8;c0,0,9;c0,1,6;c0,2,3;";
    /** Likewise to 5, 7 and to 6, 7. */
    private static final String COMES_IN_40_HOURS_TOO = "s8,0,0;w2,5;p8,6,0;p1,5,3;p3,1,0;p0,6,5;p6,1,5;"
        + "c2,1,8;c1,0,1;c3,5,9;c0,4,2;c1,4,1;c2,0,6;c0,3,9;";

    private final Sentences s;

    EdgesOfComing(Sentences sentences) {
        s = sentences;
    }

    void all() {
        beyond999();
        behindOf0To40();
        behindRefused();
        standsBehind0To40();
        standsForTheFirstTime();
        standsNever();
        galeOf1To4();
        galeOf0To20();
        galeOfTheMost();
        galeInPlaceOfTheOneThatIs();
        galeByHowAllStands();
        galeOfNone();
        holdByASixth();
        holdNotInTheShipsCell();
        holdByTheFirst();
        holdTold();
        holdOfNone();
        holdStaysAsItIs();
        bringsByAnyCell();
        bringsSoonest();
        bringsIn40Hours();
        bringsByTheFirst();
        bringsOfNone();
        bringsThereNow();
        bringsRefused();
        keepsNone();
        keepsOfThoseNotTakenAway();
        keepsBehind10Hours();
        keepsFewestThenLowest();
        keepsRefused();
        insteadOfThoseNotTakenAway();
        insteadOtherThanTheirs();
        insteadOfTheFirst();
        insteadOfNone();
    }

    private static SmellMoorings sailing() {
        return Due.laid("s0,4,0;w2,1;p0,0,0;c0,5,1;");
    }

    private void beyond999() {
        s.sentence(15, "From now on, nothing else being done (HOURS beyond 999, too).");
        SmellMoorings ship = Due.laid("s0,4,0;p0,0,0;p8,8,1;c0,5,1;");
        for (int i = 0; i < 49; i++) {
            ship.pass(20);
        }
        ship.pass(19);
        ship.wind(2, 1);
        s.due("the hour", 999, ship.count(2));
        s.due("behind(1, 0)", 1, ship.behind(1, 0));
        s.due("behind(7, 0)", 7, ship.behind(7, 0));
        s.due("behind(40, 0)", 8, ship.behind(40, 0));
        s.due("stands()", 8, ship.stands());
        s.due("brings(8, 4, 0)", 0, ship.brings(8, 4, 0));
        s.due("brings(8, 4, 1)", 8, ship.brings(8, 4, 1));
        s.due("keeps(0)", 0, ship.keeps(0));
        s.due("likely(1, 5, 1)", 2, ship.likely(1, 5, 1));
        s.due("voyage(3, 3, 0)", 3, ship.voyage(3, 3, 0));
        s.due("voyage(3, 3, 2)", 0, ship.voyage(3, 3, 2));
        s.due("the hour stays", 999, ship.count(2));
    }

    private void behindOf0To40() {
        s.sentence(15, "BEHIND n (0 to 40) HOURS where the SHIP is: x, y.");
        SmellMoorings ship = Due.laid(GOES_42_HOURS);
        int[][] cells = {{0, 8, 7}, {1, 7, 7}, {2, 6, 7}, {5, 4, 8}, {20, 8, 5}, {38, 6, 1}, {39, 7, 1}, {40, 8, 1}};
        for (int[] c : cells) {
            s.due("behind(" + c[0] + ", 0)", c[1], ship.behind(c[0], 0));
            s.due("behind(" + c[0] + ", 1)", c[2], ship.behind(c[0], 1));
        }
        s.due("behind(-1, 0)", BAD, ship.behind(-1, 0));
        s.due("behind(41, 0)", BAD, ship.behind(41, 0));
        ship.pass(20);
        s.due("behind(20, 0)", 8, ship.behind(20, 0));
        s.due("behind(20, 1)", 1, ship.behind(20, 1));
        s.due("the edge: behind(8, 0)", 8, sailing().behind(8, 0));
        s.due("the edge: behind(40, 0)", 8, sailing().behind(40, 0));
    }

    private void behindRefused() {
        s.sentence(15, "BEHIND: x (what = 0), y (1). BAD.");
        SmellMoorings ship = new SmellMoorings();
        s.refused(ship, BAD, () -> ship.behind(-1, 0), () -> ship.behind(41, 1), () -> ship.behind(0, -1),
            () -> ship.behind(40, 2), () -> ship.behind(Integer.MIN_VALUE, 0), () -> ship.behind(Integer.MAX_VALUE, 0),
            () -> ship.behind(0, Integer.MIN_VALUE), () -> ship.behind(0, Integer.MAX_VALUE));
        s.due("behind(0, 0)", 4, ship.behind(0, 0));
        s.due("behind(0, 1)", 4, ship.behind(0, 1));
    }

    private void standsBehind0To40() {
        s.sentence(16, "STANDS: behind how many HOURS (0 to 40)");
        SmellMoorings ship = Due.laid(GOES_42_HOURS);
        s.due("behind 42", NONE, ship.stands());
        ship.pass(1);
        s.due("behind 41", NONE, ship.stands());
        ship.pass(1);
        s.due("behind 40", 40, ship.stands());
        ship.pass(1);
        s.due("behind 39", 39, ship.stands());
        ship.pass(20);
        s.due("behind 19", 19, ship.stands());
        ship.pass(18);
        s.due("behind 1", 1, ship.stands());
        s.due("the last that goes", 0, ship.pass(1));
        s.due("behind 0", 0, ship.stands());
        s.due("the first that stays", 1, ship.pass(1));
        s.due("behind 0 still", 0, ship.stands());
    }

    private void standsForTheFirstTime() {
        s.sentence(16, "behind how many HOURS (0 to 40) it stays for the first time; none.");
        SmellMoorings ship = sailing();
        s.due("at the edge", 8, ship.stands());
        ship.pass(7);
        s.due("beside the edge", 1, ship.stands());
        ship.wind(4, 1);
        s.due("to the other edge", 7, ship.stands());
        ship.wind(0, 1);
        s.due("now", 0, ship.stands());
        // Towards the post, with 6, 7, 8 and, where it is, 0.
        s.due("under the post", 3, Due.laid("s1,4,2;p4,4,0;c0,0,9;").stands());
        // From 8 apart and nearer the one that is homesick draws less and less, with 3 at 2 apart.
        s.due("by its weight", 6, Due.laid("s0,4,3;p8,4,0;c2,0,1;").stands());
    }

    private void standsNever() {
        s.sentence(16, "`int stands()`: STANDS. NONE.");
        SmellMoorings ship = Due.laid("s3,4,2;w2,3;p3,4,0;c1,0,9;");
        s.refused(ship, NONE, ship::stands, ship::stands);
        s.due("the first text", NONE, new SmellMoorings().stands());
    }

    private void galeOf1To4() {
        s.sentence(17, "GALE to D (1 to 4)");
        SmellMoorings ship = new SmellMoorings();
        s.refused(ship, BAD, () -> ship.gale(0), () -> ship.gale(5), () -> ship.gale(-1), () -> ship.gale(Integer.MIN_VALUE),
            () -> ship.gale(Integer.MAX_VALUE));
        SmellMoorings held = Due.laid("s4,4,6;p8,4,0;c1,0,4;");
        s.due("gale(1)", 6, held.gale(1));
        s.due("gale(2)", 2, held.gale(2));
        s.due("gale(3)", 6, held.gale(3));
        s.due("gale(4)", 10, held.gale(4));
    }

    private void galeOf0To20() {
        s.sentence(17, "the most force (0 to 20) of a WIND that goes there");
        SmellMoorings heavy = Due.laid("s4,4,20;p0,0,0;c0,5,1;");
        SmellMoorings light = Due.laid("s4,4,0;p0,0,0;c0,5,1;");
        SmellMoorings one = Due.laid("s4,4,1;p0,0,0;c0,5,1;");
        SmellMoorings almost = Due.laid("s4,4,19;p0,0,0;c0,5,1;");
        SmellMoorings drawn = Due.laid("s4,4,16;p0,4,0;c1,0,9;");
        for (int d = 1; d <= 4; d++) {
            s.due("heavy 20: gale(" + d + ")", 20, heavy.gale(d));
            s.due("heavy 0: gale(" + d + ")", 0, light.gale(d));
            s.due("heavy 1: gale(" + d + ")", 1, one.gale(d));
            s.due("heavy 19: gale(" + d + ")", 19, almost.gale(d));
        }
        s.due("25 would hold, 20 is the most", 20, drawn.gale(2));
        s.due("heavy 16, drawn left by 9: gale(4)", 7, drawn.gale(4));
    }

    private void galeOfTheMost() {
        s.sentence(17, "GALE to D (1 to 4): the most force");
        // Of a wind against a cook's 9, by 1 heavy: 8, 9 and 10.
        s.due("not the least", 10, Due.laid("s4,4,1;p8,4,0;c1,0,9;").gale(4));
        // With less than 5 the cook takes it up, with more the wind would take it off the field.
        SmellMoorings ship = Due.laid("s8,4,0;p8,0,0;c1,0,5;");
        s.due("held by the edge", 20, ship.gale(2));
        s.due("away from the edge", NONE, ship.gale(4));
    }

    private void galeInPlaceOfTheOneThatIs() {
        s.sentence(17, "in place of the one that is, by which it stays now; none.");
        for (int d = 0; d <= 4; d++) {
            SmellMoorings ship = Due.laid("s4,4,6;w" + d + ",20;p8,4,0;c1,0,4;");
            s.due("wind to " + d + ": gale(1)", 6, ship.gale(1));
            s.due("wind to " + d + ": gale(4)", 10, ship.gale(4));
            s.due("the wind stays: to", d, ship.count(6));
            s.due("the wind stays: force", 20, ship.count(7));
        }
    }

    private void galeByHowAllStands() {
        s.sentence(17, "by which it stays now; none.");
        SmellMoorings ship = Due.laid("s4,4,6;p8,4,0;p0,4,1;c1,0,4;");
        s.due("gale(4)", 10, ship.gale(4));
        ship.smell(1, 0);
        ship.take(0);
        s.due("drawn the other way: gale(4)", 2, ship.gale(4));
        ship.put(1, 4, 0);
        s.due("drawn up: gale(4)", 6, ship.gale(4));
        s.due("drawn up: gale(3)", 10, ship.gale(3));
    }

    private void galeOfNone() {
        s.sentence(17, "`int gale(int d)`: GALE. NONE; BAD.");
        // A wind of 1 the other way would hold her.
        s.due("none at all isn't enough", NONE, Due.laid("s4,4,1;p8,4,0;c1,0,2;").gale(2));
        SmellMoorings ship = Due.laid("s4,4,1;p8,4,0;c1,0,9;");
        s.refused(ship, NONE, () -> ship.gale(1), () -> ship.gale(2), () -> ship.gale(3));
        s.refused(ship, BAD, () -> ship.gale(0), () -> ship.gale(5));
        s.due("gale(4)", 10, ship.gale(4));
    }

    private void holdByASixth() {
        s.sentence(18, "HOLD: of POSTS more (a sixth one, too)");
        String five = "p0,0,0;p0,1,0;p0,2,0;p0,3,0;p0,4,0;";
        SmellMoorings ship = Due.laid("s4,4,5;w2,6;" + five + "c1,3,5;");
        s.due("a sixth", 300, ship.hold());
        s.due("there are five", 5, ship.count(0));
        s.due("and no sixth", BAD, ship.post(5, 0));
        ship.take(4);
        s.due("one more of five, one of which is taken away", 300, ship.hold());
        s.due("a fifth", 300, Due.laid("s4,4,5;w2,6;" + five.substring(0, 28) + "c1,3,5;").hold());
        s.due("a second", 300, Due.laid("s4,4,5;w2,6;p8,8,0;c1,3,5;").hold());
        // What was taken away before is no more when another text is laid.
        ship.stands();
        ship.wipe();
        Due.writeAll(ship, "s4,4,5;w2,6;p8,8,0;p8,8,0;p8,8,0;p8,8,0;c1,3,5;");
        ship.lay();
        s.due("a fifth where one was taken away", 300, ship.hold());
    }

    private void holdNotInTheShipsCell() {
        s.sentence(18, "of a SMELL in a cell other than the SHIP's, by which it would stay now");
        // Where the ship is a post would free her of what draws her.
        SmellMoorings ship = Due.laid("s4,4,0;p8,4,0;c1,0,5;");
        s.due("not there", NONE, ship.hold());
        ship.put(0, 4, 4);
        s.due("it stays so", 0, ship.pull(2));
        s.due("not there, off the diagonal", NONE, Due.laid("s4,3,0;p8,3,0;c1,0,5;").hold());
        s.due("with two cooks", NONE, Due.laid("s0,0,0;p8,8,0;c1,0,5;c1,0,4;").hold());
        // A post beyond the edge would hold her.
        s.due("not below the field", NONE, Due.laid("s4,8,5;w1,6;p0,0,0;c1,3,5;").hold());
        s.due("not to the right of it", NONE, Due.laid("s8,4,5;w4,6;p0,0,0;c1,3,5;").hold());
        s.due("not above it", NONE, Due.laid("s4,0,5;w3,6;p0,0,0;c1,3,5;").hold());
        s.due("not to the left of it", NONE, Due.laid("s0,4,5;w2,6;p0,0,0;c1,3,5;").hold());
    }

    private void holdByTheFirst() {
        s.sentence(18, "the first (by SMELL, then y, then x): 100 times the SMELL, 10 times y, and x;");
        // By the numb one at 3, 3, at 2, 4, at 3, 4 and at 3, 5; by the cook with smell 2 in more cells.
        s.due("y before x", 133, Due.laid("s4,4,5;w2,6;p8,8,0;c3,1,2;c1,2,5;").hold());
        // The numb one holds by smell 1 from 4, 2 on; the cook by smell 4 from 1, 0 on.
        s.due("the smell before y", 124, Due.laid("s4,4,5;w3,6;p8,8,0;c3,1,2;c1,4,5;").hold());
    }

    private void holdTold() {
        s.sentence(18, "100 times the SMELL, 10 times y, and x; none (it stays as it is");
        s.due("the first of all", 0, Due.laid("s4,4,5;w2,6;p0,0,1;c1,0,5;").hold());
        s.due("the last of all", 588, Due.laid("s8,7,5;w1,6;p0,0,0;c1,5,5;").hold());
        s.due("the last of the first smell", 88, Due.laid("s8,7,5;w1,6;p0,0,1;c1,0,5;").hold());
        s.due("the first of the last smell", 500, Due.laid("s4,4,5;w2,6;p0,0,0;c1,5,5;").hold());
        s.due("the last of the first row", 8, Due.laid("s7,0,5;w4,6;p0,0,1;c1,0,5;").hold());
    }

    private void holdOfNone() {
        s.sentence(18, "`int hold()`: HOLD. NONE.");
        SmellMoorings ship = Due.laid("s0,0,5;w2,6;p8,8,0;c1,3,5;");
        s.refused(ship, NONE, ship::hold, ship::hold);
        s.due("all that would hold a cook is as far", NONE, Due.laid("s4,4,0;p5,4,0;c1,0,3;").hold());
    }

    private void holdStaysAsItIs() {
        s.sentence(18, "none (it stays as it is: none, too). BRINGS");
        SmellMoorings ship = Due.laid("s1,4,5;w2,6;p8,8,0;c1,3,5;");
        s.due("it goes", 330, ship.hold());
        ship.wind(2, 5);
        s.refused(ship, NONE, ship::hold);
        ship.wind(0, 20);
        s.refused(ship, NONE, ship::hold);
        SmellMoorings edge = Due.laid("s0,4,0;w4,20;p8,8,0;c1,3,5;");
        s.refused(edge, NONE, edge::hold);
    }

    private void bringsByAnyCell() {
        s.sentence(19, "BRINGS to a cell, with SMELLS: of POSTS more, of a SMELL in any cell");
        // In the ship's own cell a post frees her of the cook, so that the wind takes her.
        SmellMoorings ship = Due.laid("s4,4,0;w2,3;p3,4,0;c1,0,9;");
        s.due("in the ship's cell", 44, ship.brings(5, 4, 0));
        s.due("in the ship's cell", 1, ship.brings(5, 4, 1));
        ship = Due.laid("s4,4,2;p0,0,0;c1,3,3;");
        s.due("in the first cell", 300, ship.brings(3, 4, 0));
        s.due("in another cell", 354, ship.brings(4, 5, 0));
        ship = Due.laid("s8,7,0;p0,0,0;c1,5,3;");
        s.due("in the last cell, of the last smell", 588, ship.brings(8, 8, 0));
        ship = Due.laid("s4,4,2;p0,0,0;p0,0,0;p0,0,0;p0,0,0;p0,0,0;c1,3,3;");
        s.due("a sixth", 308, ship.brings(5, 4, 0));
        s.due("and no sixth", BAD, ship.post(5, 0));
    }

    private void bringsSoonest() {
        s.sentence(19, "that by which the SHIP is in that cell soonest");
        // By 3, 5 it goes left, down and with the wind right; by 4, 5 at once, though that is further on.
        SmellMoorings ship = Due.laid("s4,4,0;w2,1;p8,3,1;c1,1,3;");
        s.due("soonest before first", 154, ship.brings(4, 5, 0));
        s.due("soonest before first", 1, ship.brings(4, 5, 1));
        s.due("1 hour", 1, ship.brings(5, 4, 1));
        ship = Due.laid("s0,0,0;p0,8,4;c1,4,1;c1,5,9;");
        s.due("with none that would matter", 0, ship.brings(0, 8, 0));
        s.due("8 hours", 8, ship.brings(0, 8, 1));
        s.due("by a nearer one", 402, ship.brings(2, 0, 0));
        s.due("2 hours", 2, ship.brings(2, 0, 1));
        // From edge to edge, through each cell once, whatever stands there.
        for (int i = 0; i <= 8; i++) {
            SmellMoorings down = Due.laid("s" + i + ",0,0;w3,1;p0,0,0;c0,5,1;");
            s.due("down from " + i + ", 0", 8, down.brings(i, 8, 1));
            s.due("by the first of all", 0, down.brings(i, 8, 0));
            SmellMoorings right = Due.laid("s0," + i + ",0;w2,1;p0,0,0;c0,5,1;");
            s.due("right from 0, " + i, 8, right.brings(8, i, 1));
            s.due("by the first of all", 0, right.brings(8, i, 0));
        }
    }

    private void bringsIn40Hours() {
        s.sentence(19, "the SHIP is in that cell soonest (40 HOURS at most)");
        SmellMoorings ship = Due.laid(COMES_IN_40_HOURS);
        s.due("in 27", 27, ship.brings(3, 8, 1));
        s.due("in 40", 40, ship.brings(2, 8, 1));
        s.due("by", 260, ship.brings(2, 8, 0));
        s.due("in 41", NONE, ship.brings(1, 8, 1));
        s.due("in 41", NONE, ship.brings(1, 8, 0));
        ship = Due.laid(COMES_IN_40_HOURS_TOO);
        s.due("in 39", 39, ship.brings(4, 7, 1));
        s.due("in 40", 40, ship.brings(5, 7, 1));
        s.due("by", 181, ship.brings(5, 7, 0));
        s.due("in 41", NONE, ship.brings(6, 7, 1));
        s.due("in 41", NONE, ship.brings(6, 7, 0));
    }

    private void bringsByTheFirst() {
        s.sentence(19, "of several the first (as above): which; how many HOURS;");
        SmellMoorings ship = Due.laid("s4,4,2;p8,8,5;c1,3,3;c1,2,3;");
        s.due("by the smell", 200, ship.brings(3, 4, 0));
        s.due("by y, then x", 208, ship.brings(5, 4, 0));
        s.due("by x", 201, ship.brings(4, 3, 0));
        s.due("by y", 254, ship.brings(4, 5, 0));
        s.due("the first of all", 0, Due.laid("s0,0,2;w3,3;p0,0,0;c1,3,1;").brings(0, 8, 0));
    }

    private void bringsOfNone() {
        s.sentence(19, "BRINGS: which (what = 0), how many HOURS (1). NONE;");
        SmellMoorings ship = Due.laid("s0,0,2;w3,3;p0,0,0;c1,3,1;");
        s.refused(ship, NONE, () -> ship.brings(8, 8, 0), () -> ship.brings(8, 8, 1), () -> ship.brings(1, 0, 0));
        // One that is homesick draws with 9 at most from a corner.
        SmellMoorings heavy = Due.laid("s4,4,9;p0,0,0;c2,3,1;");
        s.refused(heavy, NONE, () -> heavy.brings(5, 4, 0), () -> heavy.brings(3, 4, 1), () -> heavy.brings(4, 5, 0),
            () -> heavy.brings(4, 3, 1));
    }

    private void bringsThereNow() {
        s.sentence(19, "none (it is there now: none, too).");
        for (String text : new String[] {"s4,4,2;p0,0,0;c1,3,3;", "s0,0,0;w2,9;p8,8,0;c0,0,1;", "s3,4,2;w2,3;p3,4,0;c1,0,9;"}) {
            SmellMoorings ship = Due.laid(text);
            int x = ship.count(3);
            int y = ship.count(4);
            s.due("there now", NONE, ship.brings(x, y, 0));
            s.due("there now", NONE, ship.brings(x, y, 1));
            s.due("a cell beside", 1, ship.brings(x + 1, y, 1));
        }
    }

    private void bringsRefused() {
        s.sentence(19, "how many HOURS (1). NONE; BAD.");
        SmellMoorings ship = new SmellMoorings();
        s.refused(ship, BAD, () -> ship.brings(-1, 0, 0), () -> ship.brings(9, 0, 0), () -> ship.brings(0, -1, 0),
            () -> ship.brings(0, 9, 0), () -> ship.brings(0, 0, -1), () -> ship.brings(8, 8, 2), () -> ship.brings(4, 4, -1),
            () -> ship.brings(Integer.MIN_VALUE, 0, 0), () -> ship.brings(Integer.MAX_VALUE, 0, 1),
            () -> ship.brings(0, Integer.MIN_VALUE, 0), () -> ship.brings(0, Integer.MAX_VALUE, 1),
            () -> ship.brings(0, 0, Integer.MAX_VALUE));
        s.due("the last cell is one", 1, ship.brings(8, 8, 1) == BAD ? 0 : 1);
    }

    private void keepsNone() {
        s.sentence(20, "KEEPS: of sets of POSTS not taken away (of none, too)");
        SmellMoorings ship = Due.laid("s4,4,0;w2,9;p0,0,0;p1,1,1;p2,2,2;c0,5,9;");
        s.due("none is wanted: how many", 0, ship.keeps(0));
        s.due("none is wanted: which", 0, ship.keeps(1));
        ship = Due.laid("s4,4,0;p8,4,0;c1,0,1;");
        s.due("one is wanted: how many", 1, ship.keeps(0));
        s.due("one is wanted: which", 1, ship.keeps(1));
        ship.take(0);
        s.due("none is left: how many", 0, ship.keeps(0));
        s.due("none is left: which", 0, ship.keeps(1));
    }

    private void keepsOfThoseNotTakenAway() {
        s.sentence(20, "such that, all others being taken away now");
        SmellMoorings ship = Due.laid("s0,4,0;p4,4,0;p4,4,0;p4,4,0;c1,0,5;");
        s.due("which of three", 1, ship.keeps(1));
        ship.take(0);
        s.due("which of two", 2, ship.keeps(1));
        ship.take(1);
        s.due("which of one", 4, ship.keeps(1));
        ship.put(0, 4, 4);
        s.due("which with one back", 1, ship.keeps(1));
        s.due("what was taken away stays so", 1, ship.post(1, 3));
        // Five cooks outdo wind and weight, four do not.
        ship = Due.laid("s0,4,20;w4,20;p8,4,0;p8,4,1;p8,4,2;p8,4,3;p8,4,4;c1,0,9;c1,1,9;c1,2,9;c1,3,9;c1,4,9;");
        s.due("all five: how many", 5, ship.keeps(0));
        s.due("all five: which", 31, ship.keeps(1));
        s.due("none is taken away", 0, ship.count(8));
    }

    private void keepsBehind10Hours() {
        s.sentence(20, "the SHIP would be behind 10 HOURS where it will be with all of them");
        // Behind nine hours at 5, 4, where only the numb one smells 7, 4 first.
        SmellMoorings ship = Due.laid("s0,0,0;p8,8,0;p7,4,1;c1,0,5;c3,1,9;");
        s.due("what draws in the tenth hour", 3, ship.keeps(1));
        // Behind ten hours at 5, 5, where only the numb one smells 5, 7 first.
        ship = Due.laid("s0,0,0;p8,8,0;p5,7,1;c1,0,5;c3,1,9;");
        s.due("what draws in the eleventh hour", 1, ship.keeps(1));
    }

    private void keepsFewestThenLowest() {
        s.sentence(20, "that of fewest, of several the lowest as bits: how many; which.");
        // 2 alone does what 0 and 1 do together, though 3 is lower as bits than 4.
        SmellMoorings ship = Due.laid("s4,4,4;p0,4,0;p0,4,1;p0,4,2;c1,0,3;c1,1,3;c1,2,9;");
        s.due("fewest: how many", 1, ship.keeps(0));
        s.due("fewest: which", 4, ship.keeps(1));
        // Any two of the four do.
        ship = Due.laid("s4,4,4;p0,4,0;p0,4,1;p0,4,2;p0,4,3;c1,0,3;c1,1,3;c1,2,3;c1,3,3;");
        s.due("lowest: how many", 2, ship.keeps(0));
        s.due("lowest: which", 3, ship.keeps(1));
        ship.take(0);
        s.due("lowest without 0: which", 6, ship.keeps(1));
        ship.take(2);
        s.due("lowest without 0 and 2: which", 10, ship.keeps(1));
    }

    private void keepsRefused() {
        s.sentence(20, "KEEPS: how many (what = 0), which (1; bits). BAD.");
        SmellMoorings ship = new SmellMoorings();
        s.refused(ship, BAD, () -> ship.keeps(-1), () -> ship.keeps(2), () -> ship.keeps(Integer.MIN_VALUE),
            () -> ship.keeps(Integer.MAX_VALUE));
        s.due("keeps(0)", 2, ship.keeps(0));
        s.due("keeps(1)", 6, ship.keeps(1));
    }

    private void insteadOfThoseNotTakenAway() {
        s.sentence(21, "INSTEAD: of POSTS not taken away");
        SmellMoorings ship = Due.laid("s4,4,0;p8,4,2;p4,8,3;c1,2,5;");
        s.due("the first post", 0, ship.instead());
        ship.take(0);
        s.due("the second post", 10, ship.instead());
        ship.take(1);
        s.due("none is left", NONE, ship.instead());
    }

    private void insteadOtherThanTheirs() {
        s.sentence(21, "and SMELLS other than theirs, such that it would stay now, that put on it");
        SmellMoorings ship = Due.laid("s4,4,9;p0,0,0;c1,1,9;");
        s.due("it stays as it is, its own is 0", 1, ship.instead());
        ship.smell(0, 1);
        s.due("its own is 1", 0, ship.instead());
        s.due("its smell stays", 1, ship.post(0, 2));
    }

    private void insteadOfTheFirst() {
        s.sentence(21, "the first (by the POST, then the SMELL): 10 times the POST, and the SMELL; none.");
        s.due("the first of all", 0, Due.laid("s4,4,9;p0,0,1;p0,0,0;c1,1,9;").instead());
        // Only the last post draws to the left, if it has the last smell.
        s.due("the last of all", 45, Due.laid("s4,4,5;w2,6;p8,4,0;p8,4,0;p8,4,0;p8,4,0;p0,4,0;c1,5,5;").instead());
        // By smell 5 on post 0 and by smell 1 on post 1.
        s.due("the post before the smell", 5, Due.laid("s4,4,5;w2,6;p0,4,0;p3,4,0;c1,5,5;c3,1,3;").instead());
        s.due("then the smell", 1, Due.laid("s4,4,5;w2,6;p0,4,0;p0,4,0;c1,5,5;c1,1,5;").instead());
    }

    private void insteadOfNone() {
        s.sentence(21, "`int instead()`: INSTEAD. NONE.");
        SmellMoorings ship = new SmellMoorings();
        s.refused(ship, NONE, ship::instead);
        SmellMoorings other = Due.laid("s4,4,0;p8,4,0;p4,8,0;c1,0,5;");
        s.refused(other, NONE, other::instead);
        // No smell is one that draws nobody.
        SmellMoorings each = Due.laid("s4,4,0;p8,4,0;c1,0,1;c1,1,1;c1,2,1;c1,3,1;c1,4,1;c1,5,1;");
        s.refused(each, NONE, each::instead);
    }
}
