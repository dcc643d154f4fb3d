/** Promises 1 to 8: a new object, the text, what is laid, what draws whom where. */
public final class FieldsTest {
    private static final int BAD = -1, NO = -2, FULL = -3, NONE = -4;
    private static final Due DUE = new Due("FieldsTest");

    public static void main(String[] args) {
        promise1NewObject();
        promise2Write();
        promise3Wipe();
        promise4Fault();
        promise4FaultOfTooMany();
        promise5Lay();
        promise5LayStartsAnew();
        promise6Post();
        promise7CrewByKind();
        promise7CrewNearest();
        promise8Pull();
        promise8WhereItGoes();
        DUE.end();
    }

    private static void promise1NewObject() {
        SmellMoorings ship = new SmellMoorings();
        int[] counts = {4, 5, 0, 4, 4, 2, 2, 1, 0, 0, 0, 0, 0};
        for (int what = 0; what < counts.length; what++) {
            DUE.due("new: count(" + what + ")", counts[what], ship.count(what));
        }
        int[][] posts = {{1, 4, 0, 0}, {7, 2, 1, 0}, {4, 7, 2, 0}, {8, 8, 0, 0}};
        int[][] crew = {{0, 0, 6}, {1, 1, 3}, {2, 2, 1}, {3, 0, 5}, {0, 1, 9}};
        for (int p = 0; p < posts.length; p++) {
            for (int what = 0; what < 4; what++) {
                DUE.due("new: post(" + p + ", " + what + ")", posts[p][what], ship.post(p, what));
            }
        }
        for (int c = 0; c < crew.length; c++) {
            for (int what = 0; what < 3; what++) {
                DUE.due("new: crew(" + c + ", " + what + ")", crew[c][what], ship.crew(c, what));
            }
        }
        DUE.due("new: fault()", NONE, ship.fault());
        DUE.due("new: lay()", NO, ship.lay());
        DUE.due("new: undo()", NO, ship.undo());
        DUE.due("new: back()", NO, ship.back());
        SmellMoorings other = new SmellMoorings();
        other.wind(3, 9);
        other.write('s');
        DUE.due("an object is for itself: count(7)", 1, ship.count(7));
        DUE.due("an object is for itself: count(12)", 0, ship.count(12));
    }

    private static void promise2Write() {
        SmellMoorings ship = new SmellMoorings();
        for (int letter : new int[] {31, 127, -1, 0, 1000, Integer.MIN_VALUE, Integer.MAX_VALUE}) {
            DUE.due("write(" + letter + ")", BAD, ship.write(letter));
        }
        DUE.due("count(12) behind BAD", 0, ship.count(12));
        DUE.due("write(32)", 1, ship.write(32));
        DUE.due("write(126)", 2, ship.write(126));
        for (int length = 3; length <= 200; length++) {
            DUE.due("write of letter " + length, length, ship.write('s'));
        }
        DUE.due("write of letter 201", FULL, ship.write('s'));
        DUE.due("write(31) when full", BAD, ship.write(31));
        DUE.due("count(12) when full", 200, ship.count(12));
        DUE.due("fault() when full", 0, ship.fault());
    }

    private static void promise3Wipe() {
        SmellMoorings ship = new SmellMoorings();
        DUE.due("wipe() of none", 0, ship.wipe());
        Due.writeAll(ship, "s0,0,0;");
        DUE.due("wipe()", 7, ship.wipe());
        DUE.due("count(12) behind wipe", 0, ship.count(12));
        DUE.due("wipe() again", 0, ship.wipe());
        ship.write('s');
        DUE.due("fault(): what was wiped is not read", 0, ship.fault());
        ship.wipe();
        for (int i = 0; i < 200; i++) {
            ship.write('s');
        }
        DUE.due("wipe() of a full text", 200, ship.wipe());
        DUE.due("write behind it", 1, ship.write('s'));
    }

    private static void promise4Fault() {
        String[] without = {"", "s0,0,0;", "s8,8,20;", "w0,0;", "w4,20;", "p0,0,0;", "p8,8,5;", "c0,0,1;", "c3,5,9;",
            "s00,01,02;", "p08,08,05;", "c03,05,09;", "w04,00;", "s1,1,1;s2,2,2;w1,1;w2,2;", "c0,0,1;p0,0,0;",
            "p1,1,1;p1,1,1;", "s4,4,19;"};
        for (String text : without) {
            DUE.due("fault() of \"" + text + "\"", NONE, faultOf(text));
        }
        String[] atOnce = {"s9,0,0;", "s0,9,0;", "s0,0,21;", "s0,0,99;", "w5,0;", "w0,21;", "p9,0,0;", "p0,9,0;",
            "p0,0,6;", "c4,0,1;", "c0,6,1;", "c0,0,0;", "c0,0,10;", "s000,0,0;", "s0,0,000;", "s0,0;", "s0,0,0,0;",
            "w1;", "w1,2,3;", "p1,1;", "c1,1;", "s0,0,0", "s0,0,", "s0", "s", "s;", "w,;", "s,0,0;", "s0,,0;",
            "s0,0,;", " s0,0,0;", "S0,0,0;", "s 0,0,0;", "s-1,0,0;", "s+1,0,0;", ";", "x0,0,0;", "1", "s0;0;0;",
            "s0.0,0;", "s0,0,0,", "w0,0,", "s10,0,0;", "p0,0,05", "c1,1,1:", "s0,0 ,0;", "s/,0,0;", "s:,0,0;", "~"};
        for (String text : atOnce) {
            DUE.due("fault() of \"" + text + "\"", 0, faultOf(text));
            DUE.due("fault() of \"w0,0;" + text + "\"", 5, faultOf("w0,0;" + text));
            DUE.due("fault() of \"s00,00,00;" + text + "\"", 10, faultOf("s00,00,00;" + text));
        }
        DUE.due("fault(): the first of several", 12, faultOf("s0,0,0;w0,0;p9,0,0;s9,0,0;"));
        DUE.due("fault(): a blank behind", 7, faultOf("s0,0,0; "));
        DUE.due("fault(): ;; ", 5, faultOf("w0,0;;"));
        SmellMoorings ship = Due.laid("s1,2,3;p0,0,0;c0,0,1;");
        Due.writeAll(ship, "s5,5,5;p9");
        DUE.due("fault()", 28, ship.fault());
        DUE.due("fault() lays nothing: x", 1, ship.count(3));
        DUE.due("fault() lays nothing: heavy", 3, ship.count(5));
        DUE.due("fault() leaves the text", 30, ship.count(12));
    }

    private static void promise4FaultOfTooMany() {
        DUE.due("fault() of 5 posts", NONE, faultOf("p0,0,0;".repeat(5)));
        DUE.due("fault() of 6 posts", 35, faultOf("p0,0,0;".repeat(6)));
        DUE.due("fault() of 7 of the crew", NONE, faultOf("c0,0,1;".repeat(7)));
        DUE.due("fault() of 8 of the crew", 49, faultOf("c0,0,1;".repeat(8)));
        DUE.due("fault() of 40 winds", NONE, faultOf("w0,0;".repeat(40)));
        DUE.due("fault() of 200 letters, the last item wanting", 196, faultOf("s0,0,0;".repeat(28) + "p0,0"));
        DUE.due("fault() of 28 ships", NONE, faultOf("s0,0,0;".repeat(28)));
    }

    private static int faultOf(String text) {
        SmellMoorings ship = new SmellMoorings();
        DUE.due("length of \"" + text + "\"", text.length(), Due.writeAll(ship, text));
        return ship.fault();
    }

    private static void promise5Lay() {
        String[] not = {"", "p0,0,0;", "c0,0,1;", "s0,0,0;w1,1;", "p0,0,0;c0,0,1;s9,9,9;", "p0,0,0;c0,0,1", "p0,0,6;c0,0,1;",
            "p0,0,0;c0,0,1; ", "c0,0,1;p0,0,0;p"};
        for (String text : not) {
            SmellMoorings ship = new SmellMoorings();
            ship.pass(3);
            ship.keep();
            ship.seen(0, 0, 0);
            Due.writeAll(ship, text);
            DUE.due("lay() of \"" + text + "\"", NO, ship.lay());
            int[] counts = {4, 5, 3, 6, 3, 2, 2, 1, 0, 1, 1, 1, text.length()};
            for (int what = 0; what < counts.length; what++) {
                DUE.due("nothing changes: count(" + what + ")", counts[what], ship.count(what));
            }
        }
        SmellMoorings ship = new SmellMoorings();
        Due.writeAll(ship, "c3,5,9;p8,7,5;");
        DUE.due("lay()", 1, ship.lay());
        int[] counts = {1, 1, 0, 4, 4, 2, 0, 0, 0, 0, 0, 0, 14};
        for (int what = 0; what < counts.length; what++) {
            DUE.due("without s and w: count(" + what + ")", counts[what], ship.count(what));
        }
        ship.wipe();
        Due.writeAll(ship, "s1,1,1;w1,1;s2,3,04;p0,0,0;w2,15;c1,2,3;p3,4,5;c0,5,9;c2,0,1;");
        DUE.due("lay() again", 3, ship.lay());
        int[] last = {2, 3, 0, 2, 3, 4, 2, 15, 0, 0, 0, 0, 61};
        for (int what = 0; what < last.length; what++) {
            DUE.due("the last s and w count: count(" + what + ")", last[what], ship.count(what));
        }
    }

    private static void promise5LayStartsAnew() {
        SmellMoorings ship = Due.laid("s0,0,0;w2,9;p8,8,1;c0,0,1;");
        ship.take(0);
        ship.pass(4);
        ship.keep();
        ship.keep();
        ship.seen(1, 1, 1);
        ship.seen(1, 1, 1);
        ship.stands();
        DUE.due("lay() of the text that stays", 1, ship.lay());
        int[] counts = {1, 1, 0, 0, 0, 0, 2, 9, 0, 0, 0, 0, 26};
        for (int what = 0; what < counts.length; what++) {
            DUE.due("laid again: count(" + what + ")", counts[what], ship.count(what));
        }
        DUE.due("post(0, 3)", 0, ship.post(0, 3));
        DUE.due("undo()", NO, ship.undo());
        DUE.due("back()", NO, ship.back());
        ship.pass(2);
        ship.wind(3, 7);
        ship.stands();
        ship.wipe();
        Due.writeAll(ship, "p1,1,1;c1,1,1;c1,1,1;");
        DUE.due("lay() without s and w", 2, ship.lay());
        int[] without = {1, 2, 0, 4, 4, 2, 0, 0, 0, 0, 0, 0, 21};
        for (int what = 0; what < without.length; what++) {
            DUE.due("laid without s and w: count(" + what + ")", without[what], ship.count(what));
        }
    }

    private static void promise6Post() {
        SmellMoorings ship = Due.laid("p1,2,3;p8,0,5;c0,0,1;");
        int[][] bad = {{-1, 0}, {2, 0}, {4, 0}, {0, -1}, {0, 4}, {Integer.MAX_VALUE, 0}, {Integer.MIN_VALUE, 3}};
        for (int[] b : bad) {
            DUE.due("post(" + b[0] + ", " + b[1] + ")", BAD, ship.post(b[0], b[1]));
        }
        ship.take(1);
        int[][] posts = {{1, 2, 3, 0}, {8, 0, 5, 1}};
        for (int p = 0; p < 2; p++) {
            for (int what = 0; what < 4; what++) {
                DUE.due("post(" + p + ", " + what + ")", posts[p][what], ship.post(p, what));
            }
        }
    }

    private static void promise7CrewByKind() {
        SmellMoorings ship = Due.laid("s4,4,20;p7,4,0;p4,2,1;p4,4,2;p6,6,3;p1,7,4;"
            + "c0,0,4;c0,0,3;c1,3,5;c2,4,9;c3,1,9;c3,0,9;c1,2,9;");
        // kind, smell, nose, nearest, strength, heading
        int[][] crew = {{0, 0, 4, 0, 1, 2}, {0, 0, 3, 0, 0, 0}, {1, 3, 5, 3, 5, 2}, {2, 4, 9, 4, 12, 4},
            {3, 1, 9, 1, 18, 1}, {3, 0, 9, 0, 0, 0}, {1, 2, 9, 2, 0, 0}};
        for (int c = 0; c < crew.length; c++) {
            for (int what = 0; what < 6; what++) {
                DUE.due("crew(" + c + ", " + what + ")", crew[c][what], ship.crew(c, what));
            }
        }
        DUE.due("pull(0)", 494, ship.pull(0));
        DUE.due("pull(1)", 482, ship.pull(1));
        int[][] bad = {{-1, 0}, {7, 0}, {0, -1}, {0, 6}, {Integer.MIN_VALUE, 0}, {Integer.MAX_VALUE, 5}};
        for (int[] b : bad) {
            DUE.due("crew(" + b[0] + ", " + b[1] + ")", BAD, ship.crew(b[0], b[1]));
        }
        ship = Due.laid("s4,4,0;p4,6,0;p4,5,1;p3,2,2;p4,4,3;c3,0,1;c3,1,4;c2,1,1;c2,0,9;c2,2,9;c0,2,9;c2,3,9;");
        int[][] more = {{3, 0, 1, 0, 2, 3}, {3, 1, 4, 1, 8, 3}, {2, 1, 1, 1, 2, 3}, {2, 0, 9, 0, 11, 3},
            {2, 2, 9, 2, 12, 1}, {0, 2, 9, 2, 6, 1}, {2, 3, 9, 3, 0, 0}};
        for (int c = 0; c < more.length; c++) {
            for (int what = 0; what < 6; what++) {
                DUE.due("more: crew(" + c + ", " + what + ")", more[c][what], ship.crew(c, what));
            }
        }
        ship = Due.laid("s0,0,0;p8,8,0;c2,0,9;c1,0,1;c0,0,9;c2,1,9;c1,1,9;c3,1,9;c0,1,9;");
        int[][] far = {{2, 0, 9, 0, 12, 2}, {1, 0, 1, 0, 1, 2}, {0, 0, 9, 0, 0, 0}, {2, 1, 9, NONE, 0, 0},
            {1, 1, 9, NONE, 0, 0}, {3, 1, 9, NONE, 0, 0}, {0, 1, 9, NONE, 0, 0}};
        for (int c = 0; c < far.length; c++) {
            for (int what = 0; what < 6; what++) {
                DUE.due("far: crew(" + c + ", " + what + ")", far[c][what], ship.crew(c, what));
            }
        }
    }

    private static void promise7CrewNearest() {
        SmellMoorings ship = Due.laid("s4,4,0;p5,4,1;p1,4,0;p4,7,0;p7,4,0;p4,3,0;c1,0,2;");
        DUE.due("nearest", 4, ship.crew(0, 3));
        DUE.due("up", 1, ship.crew(0, 5));
        ship.take(4);
        DUE.due("of several as far the lowest", 1, ship.crew(0, 3));
        DUE.due("left", 4, ship.crew(0, 5));
        ship.take(1);
        DUE.due("the next lowest", 2, ship.crew(0, 3));
        DUE.due("down", 3, ship.crew(0, 5));
        ship.smell(2, 5);
        DUE.due("of another smell no more", 3, ship.crew(0, 3));
        DUE.due("right", 2, ship.crew(0, 5));
        ship.take(3);
        DUE.due("none left", NONE, ship.crew(0, 3));
        DUE.due("not at all", 0, ship.crew(0, 4));
        DUE.due("nowhere", 0, ship.crew(0, 5));
        ship.put(4, 0, 8);
        DUE.due("put back", 4, ship.crew(0, 3));
        DUE.due("as far either way: left", 4, ship.crew(0, 5));
    }

    private static void promise8Pull() {
        SmellMoorings ship = Due.laid("s4,4,5;p4,0,0;p0,4,1;c1,0,9;c1,1,9;");
        DUE.due("pull(0)", 491, ship.pull(0));
        DUE.due("pull(1)", 491, ship.pull(1));
        DUE.due("pull(2): as much either way, so left", 4, ship.pull(2));
        ship.wind(4, 20);
        DUE.due("pull(0) with the wind", 471, ship.pull(0));
        ship.wind(2, 20);
        DUE.due("pull(0) with the wind", 511, ship.pull(0));
        DUE.due("pull(2)", 2, ship.pull(2));
        ship.wind(1, 20);
        DUE.due("pull(1) with the wind", 471, ship.pull(1));
        DUE.due("pull(2)", 1, ship.pull(2));
        ship.wind(3, 20);
        DUE.due("pull(1) with the wind", 511, ship.pull(1));
        DUE.due("pull(2)", 3, ship.pull(2));
        ship.wind(0, 20);
        DUE.due("pull(0): the wind goes nowhere", 491, ship.pull(0));
        DUE.due("pull(1): the wind goes nowhere", 491, ship.pull(1));
        for (int what : new int[] {-1, 3, Integer.MIN_VALUE, Integer.MAX_VALUE}) {
            DUE.due("pull(" + what + ")", BAD, ship.pull(what));
        }
        DUE.due("pull(2) moves nothing", 4, ship.count(3));
    }

    private static void promise8WhereItGoes() {
        // heavy, wind to, force of a cook to the right, where it goes
        int[][] rows = {{5, 3, 5, 5, 0}, {5, 3, 5, 6, 2}, {5, 3, 6, 5, 3}, {5, 1, 6, 5, 1}, {5, 3, 6, 6, 2},
            {5, 3, 7, 6, 3}, {5, 1, 7, 6, 1}, {5, 1, 7, 7, 2}, {0, 0, 9, 1, 2}, {20, 3, 20, 9, 0}, {19, 3, 20, 9, 3}};
        for (int[] r : rows) {
            SmellMoorings ship = Due.laid("s4,4," + r[0] + ";w" + r[1] + "," + r[2] + ";p8,4,0;c1,0," + r[3] + ";");
            DUE.due("heavy " + r[0] + ", wind " + r[1] + ", " + r[2] + ", cook " + r[3] + ": pull(2)", r[4], ship.pull(2));
        }
        int[][] edges = {{0, 4, 4, 1}, {8, 4, 2, 1}, {4, 0, 1, 1}, {4, 8, 3, 1}};
        for (int[] e : edges) {
            SmellMoorings ship = Due.laid("s" + e[0] + "," + e[1] + ",0;w" + e[2] + ",5;p4,4,0;c0,5,1;");
            DUE.due("off the field: pull(2)", 0, ship.pull(2));
            ship.wind(e[2] > 2 ? e[2] - 2 : e[2] + 2, 5);
            DUE.due("away from the edge: pull(2)", e[2] > 2 ? e[2] - 2 : e[2] + 2, ship.pull(2));
        }
        SmellMoorings ship = Due.laid("s8,4,0;w2,5;p8,8,0;c1,0,4;");
        DUE.due("off the field, the other way isn't gone: pull(2)", 0, ship.pull(2));
        DUE.due("and the pull is as it is: pull(0)", 505, ship.pull(0));
        DUE.due("and the pull is as it is: pull(1)", 504, ship.pull(1));
    }
}
