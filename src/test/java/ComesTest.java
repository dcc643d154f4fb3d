/** Promises 15 to 21: what comes. */
public final class ComesTest {
    private static final int BAD = -1, NONE = -4;
    private static final Due DUE = new Due("ComesTest");

    public static void main(String[] args) {
        promise15Behind();
        promise16Stands();
        promise17Gale();
        promise18Hold();
        promise18HoldOrder();
        promise19Brings();
        promise19BringsOrder();
        promise20Keeps();
        promise21Instead();
        nothingChangesByAsking();
        DUE.end();
    }

    private static void promise15Behind() {
        SmellMoorings ship = Due.laid("s0,8,2;w2,3;p8,0,0;c0,5,1;");
        for (int n = 0; n <= 40; n++) {
            DUE.due("behind(" + n + ", 0)", Math.min(8, n), ship.behind(n, 0));
            DUE.due("behind(" + n + ", 1)", 8, ship.behind(n, 1));
        }
        int[][] bad = {{-1, 0}, {41, 0}, {0, -1}, {0, 2}, {Integer.MIN_VALUE, 0}, {1, Integer.MAX_VALUE}};
        for (int[] b : bad) {
            DUE.due("behind(" + b[0] + ", " + b[1] + ")", BAD, ship.behind(b[0], b[1]));
        }
        // To and fro beside a post whose cook outdoes the wind.
        ship = Due.laid("s3,4,2;w2,3;p3,4,0;c1,0,9;");
        DUE.due("behind(39, 0)", 4, ship.behind(39, 0));
        DUE.due("behind(40, 0)", 3, ship.behind(40, 0));
        ship = Due.laid("s3,4,2;w3,3;p3,4,0;c1,0,9;");
        DUE.due("behind(39, 1)", 5, ship.behind(39, 1));
        DUE.due("behind(40, 1)", 4, ship.behind(40, 1));
    }

    private static void promise16Stands() {
        SmellMoorings ship = Due.laid("s0,8,2;w2,3;p8,0,0;c0,5,1;");
        DUE.due("stands() at the edge", 8, ship.stands());
        ship.pass(7);
        DUE.due("stands() next to it", 1, ship.stands());
        ship.pass(1);
        DUE.due("stands() there", 0, ship.stands());
        ship.wind(4, 2);
        DUE.due("stands() by its weight", 0, ship.stands());
        ship.wind(4, 3);
        DUE.due("stands()", 8, ship.stands());
        DUE.due("stands() never", NONE, Due.laid("s3,4,2;w2,3;p3,4,0;c1,0,9;").stands());
        // Towards the post until the nose is outdone by the weight: apart 7, 6, .. the nose less that.
        DUE.due("stands() under the post", 3, Due.laid("s1,4,2;p4,4,0;c0,0,9;").stands());
        DUE.due("stands() too far", 0, Due.laid("s1,4,2;p4,4,0;c0,0,5;").stands());
        DUE.due("stands() on the way", 2, Due.laid("s0,4,5;p8,4,0;c2,0,9;w4,7;p2,4,1;c3,1,4;").stands());
    }

    private static void promise17Gale() {
        SmellMoorings ship = Due.laid("s4,4,6;w1,20;p8,4,0;c1,0,4;");
        DUE.due("gale(1)", 6, ship.gale(1));
        DUE.due("gale(2)", 2, ship.gale(2));
        DUE.due("gale(3)", 6, ship.gale(3));
        DUE.due("gale(4)", 10, ship.gale(4));
        for (int d : new int[] {-1, 0, 5, Integer.MIN_VALUE, Integer.MAX_VALUE}) {
            DUE.due("gale(" + d + ")", BAD, ship.gale(d));
        }
        ship = Due.laid("s4,4,1;p8,4,0;c1,0,9;");
        DUE.due("no wind is too much: gale(2)", NONE, ship.gale(2));
        DUE.due("it must be as strong: gale(4)", 10, ship.gale(4));
        DUE.due("gale(1)", NONE, ship.gale(1));
        ship = Due.laid("s4,4,20;p8,4,0;c1,5,9;");
        DUE.due("the most that is told: gale(3)", 20, ship.gale(3));
        ship = Due.laid("s0,4,3;w2,9;p8,4,0;c1,5,9;");
        DUE.due("held by the edge: gale(4)", 20, ship.gale(4));
        DUE.due("gale(2)", 3, ship.gale(2));
        // As strong as the cook it holds, stronger it would take the ship off the field.
        ship = Due.laid("s4,0,0;p4,8,0;c1,0,5;");
        DUE.due("gale(1) against the cook", 20, ship.gale(1));
        DUE.due("gale(3) with the cook", NONE, ship.gale(3));
        ship = Due.laid("s4,4,0;w3,2;p0,0,0;c1,5,9;");
        DUE.due("gale(1): none but 0", 0, ship.gale(1));
        ship.stands();
        ship.put(0, 8, 4);
        ship.smell(0, 5);
        DUE.due("gale(4) by how all stands now", 9, ship.gale(4));
        ship = Due.laid("s8,4,0;p8,0,0;c1,0,5;");
        DUE.due("gale(2): off the field from 5 on", 20, ship.gale(2));
    }

    private static void promise18Hold() {
        DUE.due("hold() of the first text", 233, new SmellMoorings().hold());
        DUE.due("hold(): it stays as it is", NONE, Due.laid("s4,4,5;w2,5;p0,0,0;c1,3,5;").hold());
        // A cook of smell 3 and force 5 must draw up or down or left to outdo a wind of 6 to the right.
        SmellMoorings ship = Due.laid("s4,4,5;w2,6;p0,0,0;c1,3,5;");
        DUE.due("hold() by a cook: the first cell that draws left", 300, ship.hold());
        ship = Due.laid("s1,4,5;w2,6;p0,0,0;c1,3,5;");
        DUE.due("hold() where 0, 0 draws up", 330, ship.hold());
        ship = Due.laid("s0,0,5;w2,6;p8,8,0;c1,3,5;");
        DUE.due("hold() where nothing draws left", NONE, ship.hold());
        ship = Due.laid("s0,1,5;w1,6;p8,8,0;c1,3,5;");
        DUE.due("hold() by one that draws down", 320, ship.hold());
        // A post in the ship's own cell would free it of what draws it, but is not asked for.
        ship = Due.laid("s4,4,0;p8,4,0;c1,0,5;");
        DUE.due("hold() not in its own cell", NONE, ship.hold());
        ship = Due.laid("s4,4,5;w2,6;p0,0,0;p0,1,0;p0,2,0;p0,3,0;p0,4,0;c1,3,5;");
        DUE.due("hold() by a sixth post", 300, ship.hold());
        ship = Due.laid("s1,4,5;w2,6;p0,0,0;p0,1,0;p0,2,0;p0,3,0;p0,4,0;c1,3,5;");
        DUE.due("hold() by a sixth post further down", 330, ship.hold());
        ship = Due.laid("s4,4,5;w4,6;p0,0,0;c1,5,5;");
        DUE.due("hold() by the last smell", 508, ship.hold());
        ship = Due.laid("s4,4,5;w2,6;p0,0,1;c1,0,5;");
        DUE.due("hold() by the first smell and cell", 0, ship.hold());
        ship = Due.laid("s4,7,5;w1,6;p0,0,1;c1,0,5;");
        DUE.due("hold() in the last row", 84, ship.hold());
        ship = Due.laid("s7,4,5;w4,6;p0,0,1;c3,0,3;");
        DUE.due("hold() in the last column", 38, ship.hold());
    }

    private static void promise18HoldOrder() {
        // A cook would be held by 200, too; the numb one only by what is near: 3, 3 is above 2, 4.
        SmellMoorings ship = Due.laid("s4,4,5;w2,6;p0,0,0;c3,1,2;c1,2,5;");
        DUE.due("hold(): by the smell first, then y, then x", 133, ship.hold());
        // As far as the post that is: the lower post is the nearest, so one more as far changes nothing.
        ship = Due.laid("s4,4,0;p5,4,0;c1,0,3;w0,0;");
        DUE.due("hold() of equals", NONE, ship.hold());
    }

    private static void promise19Brings() {
        SmellMoorings ship = Due.laid("s4,4,2;p0,0,0;c1,3,3;");
        DUE.due("brings: it is there now", NONE, ship.brings(4, 4, 0));
        DUE.due("brings: it is there now", NONE, ship.brings(4, 4, 1));
        DUE.due("brings(3, 4, 0): the first that draws left", 300, ship.brings(3, 4, 0));
        DUE.due("brings(3, 4, 1)", 1, ship.brings(3, 4, 1));
        DUE.due("brings(5, 4, 0)", 308, ship.brings(5, 4, 0));
        DUE.due("brings(4, 3, 0)", 301, ship.brings(4, 3, 0));
        DUE.due("brings(4, 5, 0)", 354, ship.brings(4, 5, 0));
        DUE.due("brings(0, 0, 0)", 300, ship.brings(0, 0, 0));
        DUE.due("brings(0, 0, 1)", 8, ship.brings(0, 0, 1));
        int[][] bad = {{-1, 0, 0}, {9, 0, 0}, {0, -1, 0}, {0, 9, 0}, {0, 0, -1}, {0, 0, 2}, {4, 4, 2},
            {Integer.MAX_VALUE, 0, 0}, {0, Integer.MIN_VALUE, 1}};
        for (int[] b : bad) {
            DUE.due("brings(" + b[0] + ", " + b[1] + ", " + b[2] + ")", BAD, ship.brings(b[0], b[1], b[2]));
        }
        ship = Due.laid("s0,0,20;w3,11;p0,0,0;c1,3,9;");
        DUE.due("brings where nothing moves it", NONE, ship.brings(0, 1, 0));
        DUE.due("brings where nothing moves it", NONE, ship.brings(0, 1, 1));
        ship = Due.laid("s0,0,2;w3,3;p0,0,0;c1,3,1;");
        DUE.due("brings where it goes anyhow", 0, ship.brings(0, 8, 0));
        DUE.due("brings where it goes anyhow", 8, ship.brings(0, 8, 1));
        DUE.due("brings where it never comes", NONE, ship.brings(8, 8, 0));
        DUE.due("brings where it never comes", NONE, ship.brings(8, 8, 1));
    }

    private static void promise19BringsOrder() {
        // Nearer than the post that is, which is the lower one of two as far: 4, 1 is, 4, 0 is not.
        SmellMoorings ship = Due.laid("s4,4,0;w1,3;p4,8,0;c1,0,9;");
        DUE.due("brings(4, 3, 0)", 14, ship.brings(4, 3, 0));
        ship = Due.laid("s4,4,0;w2,3;p0,4,0;c1,0,9;");
        DUE.due("brings(5, 4, 0)", 35, ship.brings(5, 4, 0));
        // In its own cell a post frees it of the cook, so that the wind takes it.
        ship = Due.laid("s4,4,0;w2,3;p3,4,0;c1,0,9;");
        DUE.due("brings by a post in its own cell", 44, ship.brings(5, 4, 0));
        DUE.due("brings by a post in its own cell", 1, ship.brings(5, 4, 1));
        // A sixth one.
        ship = Due.laid("s4,4,2;p0,0,0;p0,0,0;p0,0,0;p0,0,0;p0,0,0;c1,3,3;");
        DUE.due("brings by a sixth", 308, ship.brings(5, 4, 0));
        ship = Due.laid("s0,0,0;p0,8,4;c1,4,1;c1,5,9;");
        DUE.due("brings(0, 8, 0)", 0, ship.brings(0, 8, 0));
        DUE.due("brings(0, 8, 1)", 8, ship.brings(0, 8, 1));
        DUE.due("brings(2, 0, 0)", 402, ship.brings(2, 0, 0));
        DUE.due("brings(2, 0, 1)", 2, ship.brings(2, 0, 1));
        ship = Due.laid("s8,7,0;p0,0,0;c1,5,3;");
        DUE.due("brings by the last smell and cell", 588, ship.brings(8, 8, 0));
        // One that is homesick draws with 9 at most from a corner; off the field there is no cell.
        ship = Due.laid("s4,4,9;p0,0,0;c2,3,1;");
        DUE.due("brings by no cell of the field", NONE, ship.brings(5, 4, 0));
        DUE.due("brings by no cell of the field", NONE, ship.brings(3, 4, 1));
        // By 3, 5 it goes left, down and with the wind right; by 4, 5 at once, though that is further on.
        ship = Due.laid("s4,4,0;w2,1;p8,3,1;c1,1,3;");
        DUE.due("brings: soonest before first", 154, ship.brings(4, 5, 0));
        DUE.due("brings: soonest before first", 1, ship.brings(4, 5, 1));
    }

    private static void promise20Keeps() {
        SmellMoorings ship = new SmellMoorings();
        DUE.due("keeps(0)", 2, ship.keeps(0));
        DUE.due("keeps(1)", 6, ship.keeps(1));
        for (int what : new int[] {-1, 2, Integer.MIN_VALUE, Integer.MAX_VALUE}) {
            DUE.due("keeps(" + what + ")", BAD, ship.keeps(what));
        }
        // Either of two alike is enough; the lower one as bits.
        ship = Due.laid("s0,4,0;p4,4,0;p4,4,0;c1,0,5;");
        DUE.due("keeps(0) of two alike", 1, ship.keeps(0));
        DUE.due("keeps(1) of two alike", 1, ship.keeps(1));
        ship.take(0);
        DUE.due("keeps(0) of the one that is left", 1, ship.keeps(0));
        DUE.due("keeps(1) of the one that is left", 2, ship.keeps(1));
        ship.take(1);
        DUE.due("keeps(0) of none", 0, ship.keeps(0));
        DUE.due("keeps(1) of none", 0, ship.keeps(1));
        ship = Due.laid("s4,4,0;w2,9;p0,0,0;p1,1,1;p2,2,2;c0,5,9;");
        DUE.due("keeps(0): none is wanted", 0, ship.keeps(0));
        DUE.due("keeps(1): none is wanted", 0, ship.keeps(1));
        ship = Due.laid("s4,4,0;p0,4,0;p8,4,1;p4,0,2;p4,8,3;c1,0,9;c1,1,9;c1,2,9;c1,3,9;");
        DUE.due("keeps(0): all held, as by none", 0, ship.keeps(0));
        ship = Due.laid("s8,8,0;p0,8,0;p0,8,1;c1,0,5;");
        DUE.due("keeps(1): drawn all the way", 1, ship.keeps(1));
        // 5, 5 between the two; by one of them alone it would be where that one is.
        ship = Due.laid("s4,4,0;p4,2,0;p2,4,1;p4,4,2;p6,6,3;p4,6,4;c1,4,9;c1,3,9;c0,0,1;");
        DUE.due("keeps(0) of two that both draw", 2, ship.keeps(0));
        DUE.due("keeps(1) of two that both draw", 24, ship.keeps(1));
        // Behind nine hours at 5, 4, where only the numb one smells 7, 4 first.
        ship = Due.laid("s0,0,0;p8,8,0;p7,4,1;c1,0,5;c3,1,9;");
        DUE.due("keeps(1): what draws in the tenth hour", 3, ship.keeps(1));
        // Behind ten hours at 5, 5, where only the numb one smells 5, 7 first.
        ship = Due.laid("s0,0,0;p8,8,0;p5,7,1;c1,0,5;c3,1,9;");
        DUE.due("keeps(1): what draws in the eleventh hour", 1, ship.keeps(1));
        // A lower one as bits has no more posts: 2 alone does what 0 and 1 do together.
        ship = Due.laid("s4,4,4;p0,4,0;p0,4,1;p0,4,2;c1,0,3;c1,1,3;c1,2,9;");
        DUE.due("keeps(0): fewest before lowest", 1, ship.keeps(0));
        DUE.due("keeps(1): fewest before lowest", 4, ship.keeps(1));
    }

    private static void promise21Instead() {
        DUE.due("instead() of the first text", NONE, new SmellMoorings().instead());
        SmellMoorings ship = Due.laid("s4,4,0;p8,4,2;p4,8,3;c1,2,5;");
        DUE.due("instead(): any other on the first", 0, ship.instead());
        ship.take(0);
        DUE.due("instead(): it stays as it is", 10, ship.instead());
        ship.take(1);
        DUE.due("instead(): none is left", NONE, ship.instead());
        ship = Due.laid("s4,4,0;p8,4,0;p4,8,0;c1,0,5;");
        DUE.due("instead(): another would draw", NONE, ship.instead());
        ship = Due.laid("s4,4,5;p4,0,5;w2,9;p0,4,1;c1,3,5;");
        DUE.due("instead(): the smell that a cook wants, on the second", 13, ship.instead());
        ship = Due.laid("s4,4,9;p0,0,0;c1,1,9;");
        DUE.due("instead(): its own is not one", 1, ship.instead());
        ship = Due.laid("s4,4,5;w2,6;p0,4,0;c1,5,5;");
        DUE.due("instead(): the last smell", 5, ship.instead());
        ship = Due.laid("s4,4,9;p0,0,1;c1,1,9;");
        DUE.due("instead(): 0", 0, ship.instead());
    }

    private static void nothingChangesByAsking() {
        SmellMoorings ship = new SmellMoorings();
        ship.pass(2);
        ship.take(3);
        int[] before = new int[13];
        for (int what = 0; what < 13; what++) {
            before[what] = ship.count(what);
        }
        ship.behind(40, 0);
        ship.stands();
        ship.gale(4);
        ship.hold();
        ship.brings(0, 0, 0);
        ship.keeps(0);
        ship.instead();
        for (int what = 0; what < 13; what++) {
            DUE.due("asked: count(" + what + ")", before[what], ship.count(what));
        }
        int[][] posts = {{1, 4, 0, 0}, {7, 2, 1, 0}, {4, 7, 2, 0}, {8, 8, 0, 1}};
        for (int p = 0; p < 4; p++) {
            for (int what = 0; what < 4; what++) {
                DUE.due("asked: post(" + p + ", " + what + ")", posts[p][what], ship.post(p, what));
            }
        }
        DUE.due("asked: crew(0, 2)", 6, ship.crew(0, 2));
    }
}
