/** Promises 9 to 14: hours, winds, posts moved, other smells, taken away, undone. */
public final class ActsTest {
    private static final int BAD = -1, NO = -2;
    private static final Due DUE = new Due("ActsTest");

    public static void main(String[] args) {
        promise9Pass();
        promise9PassTo999();
        promise10Wind();
        promise11Put();
        promise12Smell();
        promise13Take();
        promise14Undo();
        promise14UndoOfEach();
        promise14UndoLast8();
        DUE.end();
    }

    private static void promise9Pass() {
        SmellMoorings ship = Due.laid("s4,4,2;w2,3;p0,0,0;c0,5,1;");
        for (int n : new int[] {0, 21, -1, 999, 1000, Integer.MIN_VALUE, Integer.MAX_VALUE}) {
            DUE.due("pass(" + n + ")", BAD, ship.pass(n));
        }
        DUE.due("no hour went by", 0, ship.count(2));
        DUE.due("none to undo", 0, ship.count(10));
        DUE.due("pass(3)", 0, ship.pass(3));
        DUE.due("x", 7, ship.count(3));
        DUE.due("y", 4, ship.count(4));
        DUE.due("the hour", 3, ship.count(2));
        DUE.due("pass(20)", 19, ship.pass(20));
        DUE.due("x at the edge", 8, ship.count(3));
        DUE.due("the hour", 23, ship.count(2));
        ship.wind(1, 3);
        DUE.due("pass(1)", 0, ship.pass(1));
        DUE.due("y", 3, ship.count(4));
        ship.wind(1, 2);
        DUE.due("pass(1) too weak", 1, ship.pass(1));
        // 3,4 and back: a cook draws left from the cell right of the post, the wind right from the post.
        ship = Due.laid("s3,4,2;w2,3;p3,4,0;c1,0,9;");
        DUE.due("pass(5) to and fro", 0, ship.pass(5));
        DUE.due("x", 4, ship.count(3));
    }

    private static void promise9PassTo999() {
        SmellMoorings ship = new SmellMoorings();
        for (int i = 1; i <= 49; i++) {
            ship.pass(20);
        }
        DUE.due("the hour", 980, ship.count(2));
        DUE.due("pass(20) above 999", NO, ship.pass(20));
        DUE.due("pass(21) is bad first", BAD, ship.pass(21));
        DUE.due("the hour stays", 980, ship.count(2));
        ship.pass(19);
        DUE.due("999", 999, ship.count(2));
        DUE.due("pass(1) above 999", NO, ship.pass(1));
        DUE.due("none of those can be undone", 8, ship.count(10));
        int x = ship.count(3);
        int y = ship.count(4);
        DUE.due("behind(0, 0)", x, ship.behind(0, 0));
        DUE.due("behind(40, 1) goes beyond 999", 0, Math.abs(ship.behind(40, 1) - y) > 1 ? 1 : 0);
        ship.undo();
        DUE.due("undone: the hour", 980, ship.count(2));
    }

    private static void promise10Wind() {
        SmellMoorings ship = new SmellMoorings();
        int[][] bad = {{-1, 0}, {5, 0}, {0, -1}, {0, 21}, {Integer.MAX_VALUE, 1}, {1, Integer.MIN_VALUE}};
        for (int[] b : bad) {
            DUE.due("wind(" + b[0] + ", " + b[1] + ")", BAD, ship.wind(b[0], b[1]));
        }
        DUE.due("to", 2, ship.count(6));
        DUE.due("force", 1, ship.count(7));
        DUE.due("none to undo", 0, ship.count(10));
        DUE.due("wind(4, 20)", 1, ship.wind(4, 20));
        DUE.due("to", 4, ship.count(6));
        DUE.due("force", 20, ship.count(7));
        DUE.due("wind(0, 7)", 20, ship.wind(0, 7));
        DUE.due("wind(0, 7) again", 7, ship.wind(0, 7));
        DUE.due("to", 0, ship.count(6));
        DUE.due("wind(1, 0)", 7, ship.wind(1, 0));
        DUE.due("to", 1, ship.count(6));
        DUE.due("force", 0, ship.count(7));
        DUE.due("each can be undone", 4, ship.count(10));
    }

    private static void promise11Put() {
        SmellMoorings ship = Due.laid("s4,4,0;p1,2,0;p3,4,1;c1,0,1;");
        int[][] bad = {{-1, 0, 0}, {2, 0, 0}, {0, -1, 0}, {0, 9, 0}, {0, 0, -1}, {0, 0, 9}, {5, 1, 2},
            {Integer.MAX_VALUE, 0, 0}, {0, Integer.MIN_VALUE, 2}};
        for (int[] b : bad) {
            DUE.due("put(" + b[0] + ", " + b[1] + ", " + b[2] + ")", BAD, ship.put(b[0], b[1], b[2]));
        }
        DUE.due("put(0, 1, 2): it stands there", NO, ship.put(0, 1, 2));
        DUE.due("none to undo", 0, ship.count(10));
        DUE.due("put(0, 1, 3)", 0, ship.put(0, 1, 3));
        DUE.due("put(0, 2, 3)", 0, ship.put(0, 2, 3));
        DUE.due("put where another stands", 0, ship.put(0, 3, 4));
        DUE.due("put where the ship is", 0, ship.put(0, 4, 4));
        DUE.due("x", 4, ship.post(0, 0));
        DUE.due("y", 4, ship.post(0, 1));
        DUE.due("smell", 0, ship.post(0, 2));
        ship.take(0);
        DUE.due("put back where it was", 1, ship.put(0, 4, 4));
        DUE.due("it is not taken away", 0, ship.post(0, 3));
        ship.take(0);
        DUE.due("put back elsewhere", 1, ship.put(0, 8, 8));
        DUE.due("it is not taken away", 0, ship.post(0, 3));
        DUE.due("x", 8, ship.post(0, 0));
        DUE.due("put(0, 0, 0)", 0, ship.put(0, 0, 0));
        DUE.due("the other one is as it was", 3, ship.post(1, 0));
    }

    private static void promise12Smell() {
        SmellMoorings ship = Due.laid("s4,4,0;p1,2,0;p3,4,1;c1,0,1;");
        int[][] bad = {{-1, 0}, {2, 0}, {0, -1}, {0, 6}, {Integer.MIN_VALUE, 1}, {1, Integer.MAX_VALUE}};
        for (int[] b : bad) {
            DUE.due("smell(" + b[0] + ", " + b[1] + ")", BAD, ship.smell(b[0], b[1]));
        }
        DUE.due("smell(0, 0): it has that", NO, ship.smell(0, 0));
        DUE.due("none to undo", 0, ship.count(10));
        DUE.due("smell(0, 5)", 0, ship.smell(0, 5));
        DUE.due("smell(0, 3)", 5, ship.smell(0, 3));
        DUE.due("post(0, 2)", 3, ship.post(0, 2));
        ship.take(0);
        DUE.due("smell(0, 4): it is taken away", NO, ship.smell(0, 4));
        DUE.due("smell(0, 6): bad first", BAD, ship.smell(0, 6));
        DUE.due("three to undo", 3, ship.count(10));
        DUE.due("post(1, 2)", 1, ship.post(1, 2));
    }

    private static void promise13Take() {
        SmellMoorings ship = new SmellMoorings();
        for (int p : new int[] {-1, 4, 5, Integer.MIN_VALUE, Integer.MAX_VALUE}) {
            DUE.due("take(" + p + ")", BAD, ship.take(p));
        }
        DUE.due("take(3)", 3, ship.take(3));
        DUE.due("take(3) again", NO, ship.take(3));
        DUE.due("one to undo", 1, ship.count(10));
        DUE.due("take(0)", 2, ship.take(0));
        DUE.due("take(1)", 1, ship.take(1));
        DUE.due("three are taken away", 3, ship.count(8));
        DUE.due("take(2)", 0, ship.take(2));
        DUE.due("still there are", 4, ship.count(0));
        ship.put(1, 0, 0);
        DUE.due("take(1) again", 0, ship.take(1));
        DUE.due("of a taken one: x", 8, ship.post(3, 0));
    }

    private static void promise14Undo() {
        SmellMoorings ship = new SmellMoorings();
        DUE.due("undo() of none", NO, ship.undo());
        ship.wind(2, 1);
        DUE.due("such by which nothing becomes another, too", 1, ship.count(10));
        ship.wind(3, 9);
        ship.wind(4, 8);
        DUE.due("undo()", 2, ship.undo());
        DUE.due("to", 3, ship.count(6));
        DUE.due("force", 9, ship.count(7));
        DUE.due("undo()", 1, ship.undo());
        DUE.due("to", 2, ship.count(6));
        DUE.due("force", 1, ship.count(7));
        DUE.due("undo()", 0, ship.undo());
        DUE.due("undo() of none", NO, ship.undo());
        DUE.due("what asks can't be undone", 0, askAll(ship));
        DUE.due("undo() of none", NO, ship.undo());
    }

    private static int askAll(SmellMoorings ship) {
        ship.write('s');
        ship.wipe();
        ship.fault();
        ship.behind(3, 0);
        ship.stands();
        ship.gale(1);
        ship.hold();
        ship.brings(0, 0, 0);
        ship.keeps(0);
        ship.instead();
        ship.seen(0, 0, 0);
        ship.may(0, 0);
        ship.stowaway(0);
        ship.forget();
        ship.likely(3, 3, 0);
        ship.voyage(1, 20, 0);
        ship.keep();
        return ship.count(10);
    }

    private static void promise14UndoOfEach() {
        SmellMoorings ship = Due.laid("s4,4,0;w2,3;p1,2,0;p3,4,1;c1,0,1;");
        ship.seen(0, 0, 0);
        ship.pass(3);
        ship.put(0, 5, 6);
        ship.smell(0, 5);
        ship.take(0);
        ship.put(0, 7, 7);
        ship.keep();
        ship.write('s');
        DUE.due("undo() of back again", 4, ship.undo());
        DUE.due("taken away", 1, ship.post(0, 3));
        DUE.due("x", 5, ship.post(0, 0));
        DUE.due("y", 6, ship.post(0, 1));
        DUE.due("undo() of take", 3, ship.undo());
        DUE.due("not taken away", 0, ship.post(0, 3));
        DUE.due("undo() of smell", 2, ship.undo());
        DUE.due("smell", 0, ship.post(0, 2));
        DUE.due("undo() of put", 1, ship.undo());
        DUE.due("x", 1, ship.post(0, 0));
        DUE.due("y", 2, ship.post(0, 1));
        DUE.due("undo() of hours, all at once", 0, ship.undo());
        DUE.due("the hour", 0, ship.count(2));
        DUE.due("ship's x", 4, ship.count(3));
        DUE.due("ship's y", 4, ship.count(4));
        DUE.due("the text stays", 34, ship.count(12));
        DUE.due("what is seen stays", 1, ship.count(9));
        DUE.due("what is kept stays", 1, ship.count(11));
    }

    private static void promise14UndoLast8() {
        SmellMoorings ship = new SmellMoorings();
        for (int f = 2; f <= 13; f++) {
            ship.wind(1, f);
            DUE.due("can be undone", Math.min(8, f - 1), ship.count(10));
        }
        for (int left = 7; left >= 0; left--) {
            DUE.due("undo()", left, ship.undo());
            DUE.due("force", left + 5, ship.count(7));
        }
        DUE.due("the ninth is no more", NO, ship.undo());
        DUE.due("force", 5, ship.count(7));
        ship.wind(1, 20);
        ship.wind(1, 19);
        DUE.due("undo()", 1, ship.undo());
        DUE.due("force", 20, ship.count(7));
        DUE.due("undo()", 0, ship.undo());
        DUE.due("force", 5, ship.count(7));
    }
}
