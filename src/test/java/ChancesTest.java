/** Promises 26 and 27: how likely the ship is where it is when winds drop, and voyages by draws. */
public final class ChancesTest {
    private static final int BAD = -1;
    private static final Due DUE = new Due("ChancesTest");

    public static void main(String[] args) {
        promise26LikelyOfAWind();
        promise26LikelyToAndFro();
        promise26LikelyBad();
        promise27VoyageByWinds();
        promise27VoyageBySmells();
        promise27VoyageBad();
        nothingChangesByAsking();
        DUE.end();
    }

    private static void likely(SmellMoorings ship, int n, int x, int above, int below) {
        DUE.due("likely(" + n + ", " + x + ", 0)", above, ship.likely(n, x, 0));
        DUE.due("likely(" + n + ", " + x + ", 1)", below, ship.likely(n, x, 1));
    }

    private static void promise26LikelyOfAWind() {
        // It goes right for good unless the wind drops in every hour.
        SmellMoorings ship = Due.laid("s4,4,2;w2,3;p0,0,0;c0,5,1;");
        likely(ship, 0, 0, 1, 1);
        likely(ship, 0, 10, 1, 1);
        likely(ship, 0, 5, 1, 1);
        likely(ship, 1, 0, 0, 1);
        likely(ship, 7, 0, 0, 1);
        likely(ship, 1, 10, 1, 1);
        likely(ship, 7, 10, 1, 1);
        likely(ship, 1, 5, 1, 2);
        likely(ship, 3, 5, 1, 8);
        likely(ship, 2, 4, 4, 25);
        likely(ship, 1, 3, 3, 10);
        likely(ship, 7, 1, 1, 10000000);
        likely(ship, 7, 7, 823543, 10000000);
        likely(ship, 7, 9, 4782969, 10000000);
        likely(ship, 7, 2, 1, 78125);
        likely(ship, 7, 8, 16384, 78125);
        likely(ship, 7, 5, 1, 128);
        ship.wind(2, 2);
        likely(ship, 7, 3, 1, 1);
        ship.wind(0, 20);
        likely(ship, 7, 3, 1, 1);
        likely(Due.laid("s8,4,2;w2,9;p0,0,0;c0,5,1;"), 7, 3, 1, 1);
        likely(Due.laid("s0,0,0;w2,1;p0,0,0;c0,5,1;"), 2, 10, 1, 1);
        likely(Due.laid("s8,8,0;w1,1;p0,0,0;c0,5,1;"), 2, 5, 1, 4);
    }

    private static void promise26LikelyToAndFro() {
        // Behind the wind it is a cell off the post, and back in the next hour by the cook, wind or none.
        SmellMoorings ship = Due.laid("s3,4,2;w2,3;p3,4,0;c1,0,9;");
        likely(ship, 1, 5, 1, 2);
        likely(ship, 2, 5, 3, 4);
        likely(ship, 3, 5, 5, 8);
        likely(ship, 2, 0, 1, 1);
        likely(ship, 3, 0, 0, 1);
        likely(ship, 4, 0, 1, 1);
        likely(ship, 2, 1, 91, 100);
        likely(ship, 2, 9, 91, 100);
        likely(ship, 2, 10, 1, 1);
        ship.pass(1);
        likely(ship, 1, 10, 0, 1);
        likely(ship, 2, 10, 0, 1);
        likely(ship, 1, 0, 0, 1);
        likely(ship, 2, 5, 1, 2);
        likely(ship, 2, 3, 7, 10);
        // Drawn off where the wind holds it: it comes back only when there is none again.
        ship = Due.laid("s4,4,0;w4,5;p8,4,0;c1,0,5;");
        likely(ship, 1, 3, 7, 10);
        likely(ship, 7, 0, 1, 1);
        likely(ship, 2, 3, 49, 100);
    }

    private static void promise26LikelyBad() {
        SmellMoorings ship = new SmellMoorings();
        int[][] bad = {{-1, 0, 0}, {8, 0, 0}, {0, -1, 0}, {0, 11, 0}, {0, 0, -1}, {0, 0, 2}, {Integer.MAX_VALUE, 1, 0},
            {1, Integer.MIN_VALUE, 0}, {1, 1, Integer.MAX_VALUE}};
        for (int[] b : bad) {
            DUE.due("likely(" + b[0] + ", " + b[1] + ", " + b[2] + ")", BAD, ship.likely(b[0], b[1], b[2]));
        }
    }

    private static void voyage(SmellMoorings ship, int z, int n, int x, int y, int stayed) {
        DUE.due("voyage(" + z + ", " + n + ", 0)", x, ship.voyage(z, n, 0));
        DUE.due("voyage(" + z + ", " + n + ", 1)", y, ship.voyage(z, n, 1));
        DUE.due("voyage(" + z + ", " + n + ", 2)", stayed, ship.voyage(z, n, 2));
    }

    private static void promise27VoyageByWinds() {
        // By 3 the draws of the first eight hours are such but for the fourth: 27984, a wind to 3 with 7.
        SmellMoorings ship = Due.laid("s4,4,2;w2,3;p0,0,0;c0,5,1;");
        voyage(ship, 3, 1, 5, 4, 0);
        voyage(ship, 3, 3, 7, 4, 0);
        voyage(ship, 3, 4, 7, 5, 0);
        voyage(ship, 3, 7, 7, 8, 0);
        voyage(ship, 3, 8, 7, 8, 1);
        // By 0 the first draw is 0: no wind.
        voyage(ship, 0, 1, 4, 4, 1);
        voyage(ship, 0, 4, 4, 4, 4);
        ship.pass(2);
        voyage(ship, 3, 1, 7, 4, 0);
        voyage(ship, 3, 4, 8, 5, 1);
        // By 9999 the third draw is a wind to 3 with 2, too weak for it.
        voyage(ship, 9999, 3, 8, 4, 1);
    }

    private static void promise27VoyageBySmells() {
        // By 1 the first, the third and the fourth draw put smells 4, 3, 4 on posts; the fifth is a wind to 2 with 9.
        SmellMoorings ship = Due.laid("s4,4,2;p4,0,0;c1,3,5;");
        voyage(ship, 1, 1, 4, 4, 1);
        voyage(ship, 1, 2, 4, 4, 2);
        voyage(ship, 1, 3, 4, 3, 2);
        voyage(ship, 1, 4, 4, 3, 3);
        voyage(ship, 1, 5, 5, 3, 3);
        ship.take(0);
        voyage(ship, 1, 4, 4, 4, 4);
        voyage(ship, 1, 5, 5, 4, 4);
        // By 3 the first three draws are none of these two.
        voyage(Due.laid("s0,4,0;p8,4,0;c1,0,5;"), 3, 3, 3, 4, 0);
        // Of four posts it is 1, 3 and 1, be 0 taken away or not.
        ship = Due.laid("s4,4,2;p4,0,0;p4,0,0;p4,0,0;p4,8,0;c1,3,5;");
        voyage(ship, 1, 3, 4, 5, 2);
        voyage(ship, 1, 4, 4, 6, 2);
        voyage(ship, 1, 5, 5, 6, 2);
        ship.take(0);
        voyage(ship, 1, 5, 5, 6, 2);
    }

    private static void promise27VoyageBad() {
        SmellMoorings ship = new SmellMoorings();
        int[][] bad = {{-1, 1, 0}, {10000, 1, 0}, {0, 0, 0}, {0, 61, 0}, {0, 1, -1}, {0, 1, 3}, {Integer.MAX_VALUE, 1, 0},
            {1, Integer.MIN_VALUE, 0}, {1, 1, Integer.MAX_VALUE}};
        for (int[] b : bad) {
            DUE.due("voyage(" + b[0] + ", " + b[1] + ", " + b[2] + ")", BAD, ship.voyage(b[0], b[1], b[2]));
        }
        DUE.due("voyage(0, 1, 2) is none of these", 0, ship.voyage(0, 1, 2));
        DUE.due("voyage(9999, 60, 2) neither", 1, ship.voyage(9999, 60, 2) >= 0 ? 1 : 0);
    }

    private static void nothingChangesByAsking() {
        SmellMoorings ship = new SmellMoorings();
        ship.voyage(1, 60, 0);
        ship.voyage(3, 60, 1);
        ship.likely(7, 3, 0);
        int[] counts = {4, 5, 0, 4, 4, 2, 2, 1, 0, 0, 0, 0, 0};
        for (int what = 0; what < counts.length; what++) {
            DUE.due("asked: count(" + what + ")", counts[what], ship.count(what));
        }
        int[] smells = {0, 1, 2, 0};
        for (int p = 0; p < 4; p++) {
            DUE.due("asked: post(" + p + ", 2)", smells[p], ship.post(p, 2));
        }
        for (int i = 1; i <= 49; i++) {
            ship.pass(20);
        }
        ship.pass(19);
        DUE.due("beyond hour 999, too", 1, ship.voyage(5, 60, 0) >= 0 ? 1 : 0);
    }
}
