import java.math.BigInteger;

/** Promises 26 and 27: chances and voyages. */
final class EdgesOfChances {
    private static final int BAD = Sentences.BAD;
    private final Sentences s;

    EdgesOfChances(Sentences sentences) {
        s = sentences;
    }

    void all() {
        likelyOf0To7();
        likelyOf0To10();
        likelyNoWindInThatHour();
        likelyInLowestTerms();
        likelyRefused();
        voyageOf0To9999();
        voyageOf1To60();
        voyageChangesNothing();
        voyageByModulo8();
        voyageByWindModulo5();
        voyageByForceModulo10();
        voyageByPostModuloAsMany();
        voyageOfOneTakenAway();
        voyageBySmellModulo6();
        voyageByDraws();
        voyageByItsOwnHours();
        voyageRefused();
    }

    private static SmellMoorings sailing() {
        return Due.laid("s0,4,0;w2,1;p0,0,0;c0,5,1;");
    }

    private void likely(SmellMoorings ship, int n, int x, int above, int below) {
        s.due("likely(" + n + ", " + x + ", 0)", above, ship.likely(n, x, 0));
        s.due("likely(" + n + ", " + x + ", 1)", below, ship.likely(n, x, 1));
    }

    private void likelyOf0To7() {
        s.sentence(26, "LIKELY for n (0 to 7)");
        SmellMoorings ship = sailing();
        for (int x = 0; x <= 10; x++) {
            likely(ship, 0, x, 1, 1);
        }
        int below = 1;
        for (int n = 1; n <= 7; n++) {
            below *= 10;
            likely(ship, n, 1, 1, below);
        }
        s.due("likely(-1, 1, 0)", BAD, ship.likely(-1, 1, 0));
        s.due("likely(8, 1, 0)", BAD, ship.likely(8, 1, 0));
    }

    private void likelyOf0To10() {
        s.sentence(26, "the WIND drops by x (0 to 10) of ten, for itself");
        SmellMoorings ship = sailing();
        likely(ship, 7, 0, 0, 1);
        likely(ship, 7, 10, 1, 1);
        likely(ship, 1, 9, 9, 10);
        likely(ship, 7, 9, 4782969, 10000000);
        likely(ship, 7, 1, 1, 10000000);
        s.due("likely(1, -1, 0)", BAD, ship.likely(1, -1, 0));
        s.due("likely(1, 11, 0)", BAD, ship.likely(1, 11, 0));
        // To and fro: behind two hours it is back, if the wind drops in both or in none, or in the second.
        SmellMoorings cook = Due.laid("s3,4,2;w2,3;p3,4,0;c1,0,9;");
        likely(cook, 2, 0, 1, 1);
        likely(cook, 2, 1, 91, 100);
        likely(cook, 2, 10, 1, 1);
        likely(cook, 3, 0, 0, 1);
        likely(cook, 3, 10, 1, 1);
        // The same from each corner, along two edges.
        for (String text : new String[] {"s0,0,0;w2,1;", "s8,0,0;w3,1;", "s0,8,0;w1,1;", "s8,8,0;w4,1;"}) {
            SmellMoorings corner = Due.laid(text + "p4,4,0;c0,5,1;");
            likely(corner, 1, 3, 3, 10);
            likely(corner, 2, 3, 9, 100);
            corner.behind(40, 0);
            likely(corner, 1, 3, 3, 10);
        }
    }

    private void likelyNoWindInThatHour() {
        s.sentence(26, "(there is none in that HOUR)");
        // Held by the wind against the cook; without it she is drawn away, and with it she does not come back.
        SmellMoorings ship = Due.laid("s4,4,0;w4,5;p8,4,0;c1,0,5;");
        likely(ship, 1, 0, 1, 1);
        likely(ship, 1, 3, 7, 10);
        likely(ship, 2, 3, 49, 100);
        likely(ship, 7, 10, 0, 1);
        s.due("the wind is as it was: to", 4, ship.count(6));
        s.due("the wind is as it was: force", 5, ship.count(7));
        ship.wind(0, 5);
        likely(ship, 1, 3, 0, 1);
    }

    private void likelyInLowestTerms() {
        s.sentence(26, "how likely the SHIP is where it is now behind them, in lowest terms.");
        SmellMoorings ship = sailing();
        likely(ship, 1, 0, 0, 1);
        likely(ship, 1, 5, 1, 2);
        likely(ship, 1, 2, 1, 5);
        likely(ship, 1, 3, 3, 10);
        likely(ship, 2, 4, 4, 25);
        likely(ship, 2, 5, 1, 4);
        likely(ship, 7, 5, 1, 128);
        likely(ship, 7, 2, 1, 78125);
        likely(ship, 7, 4, 128, 78125);
        likely(ship, 7, 6, 2187, 78125);
        likely(ship, 7, 7, 823543, 10000000);
        likely(ship, 7, 8, 16384, 78125);
        likely(ship, 7, 10, 1, 1);
        // It stays whatever the wind does.
        likely(Due.laid("s4,4,20;w1,20;p0,0,0;c0,5,1;"), 7, 3, 1, 1);
    }

    private void likelyRefused() {
        s.sentence(26, "LIKELY: above (part = 0), below (1). BAD.");
        SmellMoorings ship = new SmellMoorings();
        s.refused(ship, BAD, () -> ship.likely(-1, 0, 0), () -> ship.likely(8, 0, 0), () -> ship.likely(0, -1, 0),
            () -> ship.likely(0, 11, 0), () -> ship.likely(0, 0, -1), () -> ship.likely(7, 10, 2),
            () -> ship.likely(Integer.MIN_VALUE, 0, 0), () -> ship.likely(Integer.MAX_VALUE, 0, 0),
            () -> ship.likely(0, Integer.MIN_VALUE, 0), () -> ship.likely(0, Integer.MAX_VALUE, 0),
            () -> ship.likely(0, 0, Integer.MIN_VALUE), () -> ship.likely(0, 0, Integer.MAX_VALUE));
        s.due("likely(7, 10, 1)", 1, ship.likely(7, 10, 1));
    }

    private void voyage(SmellMoorings ship, int z, int n, int x, int y, int stayed) {
        s.due("voyage(" + z + ", " + n + ", 0)", x, ship.voyage(z, n, 0));
        s.due("voyage(" + z + ", " + n + ", 1)", y, ship.voyage(z, n, 1));
        s.due("voyage(" + z + ", " + n + ", 2)", stayed, ship.voyage(z, n, 2));
    }

    private void voyageOf0To9999() {
        s.sentence(27, "A VOYAGE by z (0 to 9999)");
        SmellMoorings ship = Due.laid("s4,4,2;w2,3;p0,0,0;c0,5,1;");
        // By 0 the first draw is 0, no wind; by 9999 the third is 3384, a wind to 3 with 2.
        voyage(ship, 0, 1, 4, 4, 1);
        voyage(ship, 9999, 2, 6, 4, 0);
        voyage(ship, 9999, 3, 6, 4, 1);
        s.due("voyage(-1, 1, 0)", BAD, ship.voyage(-1, 1, 0));
        s.due("voyage(10000, 1, 0)", BAD, ship.voyage(10000, 1, 0));
    }

    private void voyageOf1To60() {
        s.sentence(27, "of n (1 to 60) HOURS from now on");
        SmellMoorings ship = Due.laid("s4,4,20;p0,0,0;c0,5,1;");
        voyage(ship, 5, 1, 4, 4, 1);
        voyage(ship, 5, 60, 4, 4, 60);
        s.due("voyage(5, 0, 2)", BAD, ship.voyage(5, 0, 2));
        s.due("voyage(5, 61, 2)", BAD, ship.voyage(5, 61, 2));
    }

    private void voyageChangesNothing() {
        s.sentence(27, "(nothing changes by it)");
        SmellMoorings ship = new SmellMoorings();
        ship.take(2);
        s.unchanged(ship, () -> {
            for (int z = 0; z < 40; z++) {
                ship.voyage(z, 60, z % 3);
            }
        });
        s.due("pull(0)", 505, ship.pull(0));
        s.due("pull(1)", 500, ship.pull(1));
    }

    private void voyageByModulo8() {
        s.sentence(27, "if DRAW modulo 8 is 0, the WIND is to");
        // The first draws by these are 1, 2, .. 7 modulo 8, and 0 by the last one: a wind to 4 with 9.
        int[] z = {1, 19, 4, 5, 20, 2, 3, 43};
        for (int i = 0; i < z.length; i++) {
            SmellMoorings ship = Due.laid("s4,4,0;w1,1;p8,4,0;c0,5,9;");
            voyage(ship, z[i], 1, i == 7 ? 3 : 4, i == 7 ? 4 : 3, 0);
        }
        // By 1 the post has smell 4; by the others it has what it had.
        for (int i = 0; i < 7; i++) {
            SmellMoorings ship = Due.laid("s4,4,0;w1,1;p8,4,0;c1,4,9;");
            voyage(ship, z[i], 1, i == 0 ? 5 : 4, i == 0 ? 4 : 3, 0);
        }
    }

    private void voyageByWindModulo5() {
        s.sentence(27, "the WIND is to (DRAW by 8, cut) modulo 5");
        // The first draws by these: 30040, 17888, 10856, 28144, 30072, all with a force of 9.
        int[] z = {154, 219, 112, 509, 43};
        int[][] cells = {{4, 4}, {4, 3}, {5, 4}, {4, 5}, {3, 4}};
        for (int d = 0; d < 5; d++) {
            voyage(Due.laid("s4,4,8;w2,20;p0,0,0;c0,5,1;"), z[d], 1, cells[d][0], cells[d][1], d == 0 ? 1 : 0);
        }
    }

    private void voyageByForceModulo10() {
        s.sentence(27, "with force (DRAW by 64, cut) modulo 10");
        // The first draws by these, all to 2: 22416 with 0, 7776 with 1, 29336 with 8, 10856 with 9.
        int[] z = {149, 61, 146, 112};
        int[] force = {0, 1, 8, 9};
        for (int i = 0; i < 4; i++) {
            voyage(Due.laid("s4,4," + force[i] + ";w1,20;p0,0,0;c0,5,1;"), z[i], 1, 4, 4, 1);
            if (force[i] > 0) {
                voyage(Due.laid("s4,4," + (force[i] - 1) + ";w1,20;p0,0,0;c0,5,1;"), z[i], 1, 5, 4, 0);
            }
        }
    }

    private void voyageByPostModuloAsMany() {
        s.sentence(27, "if 1, POST (DRAW by 8, cut) modulo as many");
        // The first draws by these put smell 5 on a post: by 8, cut, 0 to 4 modulo 5.
        int[] z = {605, 367, 672, 67, 65};
        int[][] ofFour = {{605, 0}, {367, 3}, {672, 1}, {67, 1}, {65, 0}};
        for (int p = 0; p < 5; p++) {
            StringBuilder posts = new StringBuilder();
            for (int i = 0; i < 5; i++) {
                posts.append(i == p ? "p0,4,0;" : "p8,4,0;");
            }
            voyage(Due.laid("s4,4,0;" + posts + "c1,5,1;"), z[p], 1, 3, 4, 0);
        }
        for (int[] row : ofFour) {
            StringBuilder posts = new StringBuilder();
            for (int i = 0; i < 4; i++) {
                posts.append(i == row[1] ? "p0,4,0;" : "p8,4,0;");
            }
            voyage(Due.laid("s4,4,0;" + posts + "c1,5,1;"), row[0], 1, 3, 4, 0);
            voyage(Due.laid("s4,4,0;p4,0,0;c1,5,1;"), row[0], 1, 4, 3, 0);
        }
    }

    private void voyageOfOneTakenAway() {
        s.sentence(27, "(one that is taken away, too: it stays so)");
        // By 65 post 4 of 5 has smell 5.
        SmellMoorings ship = Due.laid("s4,4,0;p8,4,0;p8,4,0;p8,4,0;p8,4,0;p0,4,0;c1,5,1;");
        ship.take(4);
        voyage(ship, 65, 1, 4, 4, 1);
        ship.put(4, 0, 4);
        voyage(ship, 65, 1, 3, 4, 0);
        ship.take(0);
        voyage(ship, 65, 1, 3, 4, 0);
        SmellMoorings only = Due.laid("s4,4,0;p0,4,0;c1,5,1;");
        only.take(0);
        voyage(only, 65, 1, 4, 4, 1);
    }

    private void voyageBySmellModulo6() {
        s.sentence(27, "has SMELL (DRAW by 64, cut) modulo 6");
        int[] z = {54, 121, 133, 16, 1, 65};
        for (int smell = 0; smell < 6; smell++) {
            voyage(Due.laid("s4,4,0;p0,4," + (smell + 1) % 6 + ";c1," + smell + ",1;"), z[smell], 1, 3, 4, 0);
            voyage(Due.laid("s4,4,0;p0,4," + smell + ";c1," + smell + ",1;"), z[(smell + 1) % 6], 1, 4, 4, 1);
        }
    }

    /** The draw as the document tells it, by whole numbers without a bound. */
    private static int draw(int z, int hour) {
        BigInteger x = BigInteger.valueOf(7919L * z).add(BigInteger.valueOf(6151L * hour)).add(BigInteger.ONE);
        return x.multiply(x).mod(BigInteger.valueOf(65521)).divide(BigInteger.TWO).intValueExact();
    }

    private void voyageByDraws() {
        s.sentence(27, "DRAW being ((x times x) modulo 65521) by 2, cut, x 7919 z, 6151 (the HOUR of these, 0 first) and 1 together");
        SmellMoorings ship = Due.laid("s4,4,0;w2,1;p0,0,0;c0,5,1;");
        int[][] steps = {{0, 0}, {0, -1}, {1, 0}, {0, 1}, {-1, 0}};
        for (int z = 27; z <= 9999; z += 76) {
            int x = 4;
            int y = 4;
            int stayed = 0;
            int to = 2;
            int force = 1;
            for (int hour = 0; hour < 60; hour++) {
                int draw = draw(z, hour);
                if (draw % 8 == 0) {
                    to = draw / 8 % 5;
                    force = draw / 64 % 10;
                }
                int nextX = Math.max(0, Math.min(8, x + (force > 0 ? steps[to][0] : 0)));
                int nextY = Math.max(0, Math.min(8, y + (force > 0 ? steps[to][1] : 0)));
                stayed += nextX == x && nextY == y ? 1 : 0;
                x = nextX;
                y = nextY;
            }
            voyage(ship, z, 60, x, y, stayed);
        }
    }

    private void voyageByItsOwnHours() {
        s.sentence(27, "(the HOUR of these, 0 first)");
        // By 0 the first draw is 0, which is no wind; the next three change nothing.
        SmellMoorings ship = Due.laid("s4,4,2;w2,3;p0,0,0;c0,5,1;");
        voyage(ship, 0, 4, 4, 4, 4);
        ship.pass(2);
        voyage(ship, 0, 4, 6, 4, 4);
        ship.pass(1);
        voyage(ship, 0, 4, 7, 4, 4);
    }

    private void voyageRefused() {
        s.sentence(27, "A VOYAGE: x (what = 0), y (1), how often it stayed (2). BAD.");
        SmellMoorings ship = new SmellMoorings();
        s.refused(ship, BAD, () -> ship.voyage(-1, 1, 0), () -> ship.voyage(10000, 1, 0), () -> ship.voyage(0, 0, 0),
            () -> ship.voyage(0, 61, 0), () -> ship.voyage(0, 1, -1), () -> ship.voyage(9999, 60, 3),
            () -> ship.voyage(Integer.MIN_VALUE, 1, 0), () -> ship.voyage(Integer.MAX_VALUE, 1, 0),
            () -> ship.voyage(0, Integer.MIN_VALUE, 0), () -> ship.voyage(0, Integer.MAX_VALUE, 0),
            () -> ship.voyage(0, 1, Integer.MIN_VALUE), () -> ship.voyage(0, 1, Integer.MAX_VALUE));
        s.due("voyage(0, 1, 2)", 0, ship.voyage(0, 1, 2));
    }
}
