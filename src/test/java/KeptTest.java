/** Promises 28 to 30: fields kept, and counts. */
public final class KeptTest {
    private static final int BAD = -1, NO = -2, FULL = -3;
    private static final Due DUE = new Due("KeptTest");

    public static void main(String[] args) {
        promise28Keep();
        promise29Back();
        promise29BackToAllButTextAndSeen();
        promise30Count();
        DUE.end();
    }

    private static void promise28Keep() {
        SmellMoorings ship = new SmellMoorings();
        ship.wind(1, 5);
        DUE.due("keep()", 1, ship.keep());
        DUE.due("what can be undone stays", 1, ship.count(10));
        DUE.due("keep() of the same again", 2, ship.keep());
        DUE.due("a third", FULL, ship.keep());
        DUE.due("two are kept", 2, ship.count(11));
        DUE.due("undo() behind it", 0, ship.undo());
        DUE.due("force", 1, ship.count(7));
        DUE.due("two are kept still", 2, ship.count(11));
        DUE.due("back()", 1, ship.back());
        DUE.due("force", 5, ship.count(7));
        DUE.due("keep() again", 2, ship.keep());
        DUE.due("a third", FULL, ship.keep());
    }

    private static void promise29Back() {
        SmellMoorings ship = new SmellMoorings();
        DUE.due("back() of none", NO, ship.back());
        ship.wind(1, 5);
        DUE.due("back() of none", NO, ship.back());
        DUE.due("nothing changes then", 1, ship.count(10));
        ship.keep();
        ship.wind(3, 6);
        ship.keep();
        ship.wind(4, 7);
        DUE.due("back() to the last", 1, ship.back());
        DUE.due("to", 3, ship.count(6));
        DUE.due("force", 6, ship.count(7));
        DUE.due("nothing is undone", 0, ship.count(10));
        DUE.due("undo()", NO, ship.undo());
        ship.wind(2, 8);
        DUE.due("undo() of what came behind", 0, ship.undo());
        DUE.due("force", 6, ship.count(7));
        DUE.due("back() to the one before", 0, ship.back());
        DUE.due("to", 1, ship.count(6));
        DUE.due("force", 5, ship.count(7));
        DUE.due("back() of none", NO, ship.back());
        ship.wind(0, 1);
        ship.keep();
        ship.wind(0, 2);
        ship.keep();
        DUE.due("back() at once", 1, ship.back());
        DUE.due("force", 2, ship.count(7));
        DUE.due("back() at once", 0, ship.back());
        DUE.due("force", 1, ship.count(7));
    }

    private static void promise29BackToAllButTextAndSeen() {
        SmellMoorings ship = Due.laid("s4,4,0;w2,3;p1,2,0;p3,4,1;c1,0,1;");
        ship.seen(1, 1, 1);
        ship.pass(3);
        ship.keep();
        ship.write('s');
        ship.seen(2, 2, 2);
        ship.pass(7);
        ship.wind(4, 8);
        ship.put(0, 5, 5);
        ship.smell(0, 4);
        ship.take(1);
        DUE.due("back()", 0, ship.back());
        int[] counts = {2, 1, 3, 7, 4, 0, 2, 3, 0, 2, 0, 0, 34};
        for (int what = 0; what < counts.length; what++) {
            DUE.due("count(" + what + ")", counts[what], ship.count(what));
        }
        int[][] posts = {{1, 2, 0, 0}, {3, 4, 1, 0}};
        for (int p = 0; p < 2; p++) {
            for (int what = 0; what < 4; what++) {
                DUE.due("post(" + p + ", " + what + ")", posts[p][what], ship.post(p, what));
            }
        }
        ship.take(0);
        ship.keep();
        ship.put(0, 0, 0);
        ship.back();
        DUE.due("taken away as it was kept", 1, ship.post(0, 3));
        DUE.due("x as it was kept", 1, ship.post(0, 0));
    }

    private static void promise30Count() {
        SmellMoorings ship = Due.laid("s1,2,3;w4,5;p0,0,0;p8,8,5;p4,4,4;c0,0,1;c3,5,9;");
        int[] laid = {3, 2, 0, 1, 2, 3, 4, 5, 0, 0, 0, 0, 47};
        for (int what = 0; what < laid.length; what++) {
            DUE.due("laid: count(" + what + ")", laid[what], ship.count(what));
        }
        ship.take(0);
        ship.take(2);
        ship.wind(1, 6);
        ship.pass(2);
        ship.pass(1);
        ship.keep();
        ship.keep();
        ship.seen(0, 0, 0);
        ship.seen(0, 0, 0);
        ship.seen(0, 0, 0);
        ship.wipe();
        ship.write('c');
        int[] later = {3, 2, 3, 1, 0, 3, 1, 6, 2, 3, 5, 2, 1};
        for (int what = 0; what < later.length; what++) {
            DUE.due("later: count(" + what + ")", later[what], ship.count(what));
        }
        for (int what : new int[] {-1, 13, 14, Integer.MIN_VALUE, Integer.MAX_VALUE}) {
            DUE.due("count(" + what + ")", BAD, ship.count(what));
        }
    }
}
