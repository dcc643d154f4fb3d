/** Promises 9 to 14: hours, winds, posts moved, other smells put on them, taken away, undone. */
final class EdgesOfActs {
    private static final int BAD = Sentences.BAD, NO = Sentences.NO;
    private final Sentences s;

    EdgesOfActs(Sentences sentences) {
        s = sentences;
    }

    void all() {
        passOf1To20();
        passRefused();
        passHowManyStayed();
        passTo999();
        windEdges();
        windRefused();
        putToCells();
        putRefused();
        putWhereItStands();
        putBack();
        putOfOneTakenAwayOrNot();
        smellEdges();
        smellRefused();
        takeUntilNoneIsLeft();
        takeRefused();
        undoOfNone();
        undoOfHours();
        undoOfNothing();
        undoOfTheLast8();
        undoRoundAndRound();
        undoOfAllKindsOfActs();
        nothingIsUndoneThatWasRefused();
        firstOfTheRefusals();
    }

    /** The ship goes right with the wind in every hour until it is at the edge. */
    private static SmellMoorings sailing() {
        return Due.laid("s0,4,0;w2,1;p0,0,0;c0,5,1;");
    }

    private static void passTo980(SmellMoorings ship) {
        for (int i = 0; i < 49; i++) {
            ship.pass(20);
        }
    }

    private void passOf1To20() {
        s.sentence(9, "n (1 to 20) HOURS go by");
        SmellMoorings ship = sailing();
        s.due("pass(0)", BAD, ship.pass(0));
        s.due("pass(21)", BAD, ship.pass(21));
        s.due("x", 0, ship.count(3));
        s.due("pass(1)", 0, ship.pass(1));
        s.due("x behind 1", 1, ship.count(3));
        s.due("the hour behind 1", 1, ship.count(2));
        s.due("pass(20)", 13, ship.pass(20));
        s.due("x behind 21", 8, ship.count(3));
        s.due("the hour behind 21", 21, ship.count(2));
        for (int n = 1; n <= 20; n++) {
            s.due("pass(" + n + ") at the edge", n, ship.pass(n));
        }
        s.due("the hour behind all", 231, ship.count(2));
    }

    private void passRefused() {
        s.sentence(9, "in how many of them it stayed. BAD; NO: it would be above 999.");
        SmellMoorings ship = sailing();
        s.refused(ship, BAD, () -> ship.pass(0), () -> ship.pass(21), () -> ship.pass(-1), () -> ship.pass(999),
            () -> ship.pass(1000), () -> ship.pass(Integer.MIN_VALUE), () -> ship.pass(Integer.MAX_VALUE));
        passTo980(ship);
        s.refused(ship, NO, () -> ship.pass(20));
        ship.pass(19);
        ship.wind(4, 1);
        s.refused(ship, NO, () -> ship.pass(1), () -> ship.pass(2), () -> ship.pass(20));
        s.refused(ship, BAD, () -> ship.pass(0), () -> ship.pass(21), () -> ship.pass(Integer.MAX_VALUE));
    }

    private void passHowManyStayed() {
        s.sentence(9, "HOURS go by: in how many of them it stayed");
        s.due("in none", 0, sailing().pass(8));
        s.due("in the last", 1, sailing().pass(9));
        s.due("in all", 20, Due.laid("p0,0,0;c0,5,1;").pass(20));
        s.due("to and fro in none", 0, Due.laid("s3,4,2;w2,3;p3,4,0;c1,0,9;").pass(20));
    }

    private void passTo999() {
        s.sentence(9, "NO: it would be above 999.");
        SmellMoorings ship = Due.laid("s4,4,2;p0,0,0;c0,5,1;");
        passTo980(ship);
        s.due("980 and 20", NO, ship.pass(20));
        s.due("980 and 19", 19, ship.pass(19));
        s.due("the hour", 999, ship.count(2));
        s.due("999 and 1", NO, ship.pass(1));
        s.due("undo()", 7, ship.undo());
        s.due("the hour undone", 980, ship.count(2));
        s.due("980 and 18", 18, ship.pass(18));
        s.due("998 and 2", NO, ship.pass(2));
        s.due("998 and 1", 1, ship.pass(1));
        s.due("the hour", 999, ship.count(2));
    }

    private void windEdges() {
        s.sentence(10, "The WIND is to D with force F: the force that it had.");
        SmellMoorings ship = new SmellMoorings();
        int had = 1;
        for (int d = 0; d <= 4; d++) {
            for (int f = 0; f <= 20; f += 20) {
                s.due("wind(" + d + ", " + f + ")", had, ship.wind(d, f));
                s.due("to", d, ship.count(6));
                s.due("force", f, ship.count(7));
                had = f;
            }
        }
        s.due("the same again", 20, ship.wind(4, 20));
        s.due("the same once more", 20, ship.wind(4, 20));
    }

    private void windRefused() {
        s.sentence(10, "the force that it had. BAD.");
        SmellMoorings ship = new SmellMoorings();
        s.refused(ship, BAD, () -> ship.wind(-1, 0), () -> ship.wind(5, 0), () -> ship.wind(0, -1), () -> ship.wind(0, 21),
            () -> ship.wind(4, 21), () -> ship.wind(5, 20), () -> ship.wind(Integer.MIN_VALUE, 1),
            () -> ship.wind(Integer.MAX_VALUE, 1), () -> ship.wind(1, Integer.MIN_VALUE), () -> ship.wind(1, Integer.MAX_VALUE));
    }

    private void putToCells() {
        s.sentence(11, "A POST is moved: 1 if it was taken away, 0. BAD;");
        SmellMoorings ship = new SmellMoorings();
        int[][] cells = {{0, 0}, {8, 0}, {0, 8}, {8, 8}, {4, 4}, {7, 2}};
        for (int[] c : cells) {
            s.due("put(0, " + c[0] + ", " + c[1] + ")", 0, ship.put(0, c[0], c[1]));
            s.due("x", c[0], ship.post(0, 0));
            s.due("y", c[1], ship.post(0, 1));
        }
        s.due("its smell", 0, ship.post(0, 2));
        s.due("put(3, 0, 0)", 0, ship.put(3, 0, 0));
        s.due("x of the last", 0, ship.post(3, 0));
    }

    private void putRefused() {
        s.sentence(11, "1 if it was taken away, 0. BAD; NO: it stands there.");
        SmellMoorings ship = new SmellMoorings();
        ship.take(2);
        s.refused(ship, BAD, () -> ship.put(-1, 0, 0), () -> ship.put(4, 0, 0), () -> ship.put(0, -1, 0), () -> ship.put(0, 9, 0),
            () -> ship.put(0, 0, -1), () -> ship.put(0, 0, 9), () -> ship.put(2, 9, 0), () -> ship.put(5, 1, 4),
            () -> ship.put(Integer.MIN_VALUE, 0, 0), () -> ship.put(Integer.MAX_VALUE, 0, 0),
            () -> ship.put(0, Integer.MIN_VALUE, 4), () -> ship.put(0, 1, Integer.MAX_VALUE));
        s.refused(ship, NO, () -> ship.put(0, 1, 4), () -> ship.put(1, 7, 2), () -> ship.put(3, 8, 8));
    }

    private void putWhereItStands() {
        s.sentence(11, "NO: it stands there.");
        SmellMoorings ship = new SmellMoorings();
        s.due("there", NO, ship.put(0, 1, 4));
        s.due("in its column", 0, ship.put(0, 1, 5));
        s.due("in its row", 0, ship.put(0, 2, 5));
        s.due("where it stood", 0, ship.put(0, 1, 4));
        s.due("where another one stands", 0, ship.put(0, 7, 2));
        s.due("there with the other one", NO, ship.put(0, 7, 2));
        s.due("the other one", NO, ship.put(1, 7, 2));
        s.due("where the ship is", 0, ship.put(1, 4, 4));
        s.due("there with the ship", NO, ship.put(1, 4, 4));
    }

    private void putBack() {
        s.sentence(11, "a POST be moved (also back, if it was taken away)");
        SmellMoorings ship = new SmellMoorings();
        ship.take(0);
        s.due("back to its own cell", 1, ship.put(0, 1, 4));
        s.due("it is there", 0, ship.post(0, 3));
        s.due("and stands there", NO, ship.put(0, 1, 4));
        ship.take(0);
        s.due("back to another cell", 1, ship.put(0, 8, 0));
        s.due("it is there", 0, ship.post(0, 3));
        s.due("x", 8, ship.post(0, 0));
        s.due("y", 0, ship.post(0, 1));
        s.due("none is taken away", 0, ship.count(8));
        s.due("each can be undone", 4, ship.count(10));
    }

    private void putOfOneTakenAwayOrNot() {
        s.sentence(11, "A POST is moved: 1 if it was taken away, 0.");
        SmellMoorings ship = new SmellMoorings();
        ship.take(1);
        s.due("not this one", 0, ship.put(0, 0, 0));
        s.due("this one", 1, ship.put(1, 0, 0));
        s.due("no more", 0, ship.put(1, 0, 1));
    }

    private void smellEdges() {
        s.sentence(12, "Another SMELL: which it had.");
        SmellMoorings ship = new SmellMoorings();
        int had = 0;
        for (int smell : new int[] {5, 0, 1, 2, 3, 4}) {
            s.due("smell(0, " + smell + ")", had, ship.smell(0, smell));
            s.due("post(0, 2)", smell, ship.post(0, 2));
            had = smell;
        }
        s.due("of the last post", 0, ship.smell(3, 5));
        s.due("post(3, 2)", 5, ship.post(3, 2));
        s.due("post(2, 2)", 2, ship.post(2, 2));
    }

    private void smellRefused() {
        s.sentence(12, "which it had. BAD; NO: it has that, it is taken away.");
        SmellMoorings ship = new SmellMoorings();
        ship.take(2);
        s.refused(ship, BAD, () -> ship.smell(-1, 0), () -> ship.smell(4, 0), () -> ship.smell(0, -1), () -> ship.smell(0, 6),
            () -> ship.smell(2, 6), () -> ship.smell(5, 0), () -> ship.smell(Integer.MIN_VALUE, 1),
            () -> ship.smell(Integer.MAX_VALUE, 1), () -> ship.smell(0, Integer.MIN_VALUE),
            () -> ship.smell(0, Integer.MAX_VALUE));
        s.refused(ship, NO, () -> ship.smell(0, 0), () -> ship.smell(1, 1), () -> ship.smell(3, 0));
        s.refused(ship, NO, () -> ship.smell(2, 2), () -> ship.smell(2, 0), () -> ship.smell(2, 5));
        ship.put(2, 0, 0);
        s.due("back: it has that", NO, ship.smell(2, 2));
        s.due("back: another", 2, ship.smell(2, 5));
    }

    private void takeUntilNoneIsLeft() {
        s.sentence(13, "Taken away: how many are left.");
        SmellMoorings ship = new SmellMoorings();
        s.due("take(3)", 3, ship.take(3));
        s.due("take(0)", 2, ship.take(0));
        s.due("take(2)", 1, ship.take(2));
        s.due("take(1)", 0, ship.take(1));
        s.due("taken away", 4, ship.count(8));
        s.due("posts", 4, ship.count(0));
        s.due("pull(0): the wind alone", 501, ship.pull(0));
        ship.put(0, 1, 1);
        s.due("take(0) again", 0, ship.take(0));
        s.due("one of one", 0, Due.laid("p0,0,0;c0,0,1;").take(0));
        s.due("one of five", 4, Due.laid("p0,0,0;p0,0,0;p0,0,0;p0,0,0;p0,0,0;c0,0,1;").take(4));
    }

    private void takeRefused() {
        s.sentence(13, "how many are left. BAD; NO: it is.");
        SmellMoorings ship = new SmellMoorings();
        ship.take(1);
        s.refused(ship, BAD, () -> ship.take(-1), () -> ship.take(4), () -> ship.take(5), () -> ship.take(Integer.MIN_VALUE),
            () -> ship.take(Integer.MAX_VALUE));
        s.refused(ship, NO, () -> ship.take(1), () -> ship.take(1));
    }

    private void undoOfNone() {
        s.sentence(14, "UNDONE: how many more can be. NO.");
        SmellMoorings ship = new SmellMoorings();
        s.refused(ship, NO, ship::undo, ship::undo);
        ship.wind(1, 1);
        ship.wind(1, 2);
        s.due("one more", 1, ship.undo());
        s.due("no more", 0, ship.undo());
        s.refused(ship, NO, ship::undo, ship::undo);
        s.due("force", 1, ship.count(7));
        s.due("to", 2, ship.count(6));
    }

    private void undoOfHours() {
        s.sentence(14, "UNDONE is the latest of these, of HOURS (all of one call at once;");
        SmellMoorings ship = sailing();
        ship.pass(3);
        ship.pass(20);
        s.due("20 hours at once", 1, ship.undo());
        s.due("x", 3, ship.count(3));
        s.due("the hour", 3, ship.count(2));
        s.due("3 hours at once", 0, ship.undo());
        s.due("x", 0, ship.count(3));
        s.due("the hour", 0, ship.count(2));
    }

    private void undoOfNothing() {
        s.sentence(14, "such by which nothing becomes another, too;");
        SmellMoorings ship = Due.laid("s4,4,0;w1,0;p0,0,0;c0,5,1;");
        ship.wind(1, 0);
        s.due("the same wind", 1, ship.count(10));
        ship.pass(1);
        s.due("an hour in which it stayed", 2, ship.count(10));
        ship.wind(0, 0);
        ship.wind(0, 0);
        s.due("winds", 4, ship.count(10));
        s.due("undo()", 3, ship.undo());
        s.due("undo()", 2, ship.undo());
        s.due("to", 1, ship.count(6));
        s.due("undo()", 1, ship.undo());
        s.due("the hour", 0, ship.count(2));
        s.due("undo()", 0, ship.undo());
    }

    private void undoOfTheLast8() {
        s.sentence(14, "the last 8 can be");
        for (int acts = 1; acts <= 20; acts++) {
            SmellMoorings ship = new SmellMoorings();
            for (int f = 1; f <= acts; f++) {
                ship.wind(1, f);
            }
            int most = Math.min(8, acts);
            s.due(acts + " acts: count(10)", most, ship.count(10));
            for (int left = most - 1; left >= 0; left--) {
                s.due(acts + " acts: undo()", left, ship.undo());
                s.due("force", Math.max(1, acts - most + left), ship.count(7));
            }
            s.due(acts + " acts: one more", NO, ship.undo());
            s.due("to", acts > 8 ? 1 : 2, ship.count(6));
        }
    }

    private void undoRoundAndRound() {
        s.sentence(14, "too; the last 8 can be)");
        SmellMoorings ship = new SmellMoorings();
        int force = 0;
        for (int round = 0; round < 15; round++) {
            for (int i = 0; i < 5; i++) {
                force = (force + 1) % 21;
                ship.wind(3, force);
            }
            for (int i = 0; i < 3; i++) {
                force = (force + 20) % 21;
                s.due("round " + round + ": undo()", Math.min(8, 2 * round + 5) - 1 - i, ship.undo());
                s.due("round " + round + ": force", force, ship.count(7));
            }
        }
    }

    private void undoOfAllKindsOfActs() {
        s.sentence(14, "another SMELL put on it, it be taken away. UNDONE is the latest of these");
        SmellMoorings ship = new SmellMoorings();
        ship.pass(1);
        ship.wind(4, 9);
        ship.put(0, 0, 0);
        ship.smell(1, 5);
        ship.take(2);
        ship.put(2, 3, 3);
        s.due("of one put back", 5, ship.undo());
        s.due("taken away", 1, ship.post(2, 3));
        s.due("x", 4, ship.post(2, 0));
        s.due("of one taken away", 4, ship.undo());
        s.due("not taken away", 0, ship.post(2, 3));
        s.due("of a smell", 3, ship.undo());
        s.due("smell", 1, ship.post(1, 2));
        s.due("of one moved", 2, ship.undo());
        s.due("x", 1, ship.post(0, 0));
        s.due("y", 4, ship.post(0, 1));
        s.due("of a wind", 1, ship.undo());
        s.due("to", 2, ship.count(6));
        s.due("force", 1, ship.count(7));
        s.due("of an hour", 0, ship.undo());
        s.due("x of the ship", 4, ship.count(3));
    }

    private void nothingIsUndoneThatWasRefused() {
        s.sentence(14, "Of several the first in this order; nothing changes then.");
        SmellMoorings ship = new SmellMoorings();
        ship.take(2);
        ship.wind(1, 7);
        s.refused(ship, BAD, () -> ship.pass(0), () -> ship.wind(5, 0), () -> ship.put(0, 9, 0), () -> ship.smell(0, 6),
            () -> ship.take(4));
        s.refused(ship, NO, () -> ship.put(0, 1, 4), () -> ship.smell(0, 0), () -> ship.smell(2, 5), () -> ship.take(2));
        s.due("undo() of the wind", 1, ship.undo());
        s.due("force", 1, ship.count(7));
        s.due("undo() of the take", 0, ship.undo());
        s.due("taken away", 0, ship.post(2, 3));
    }

    /** Calls that would be refused for two reasons; those of other promises stand with these. */
    private void firstOfTheRefusals() {
        s.sentence(14, "NO: not as things stand. NONE: there is none. FULL. Of several the first in this order");
        SmellMoorings ship = new SmellMoorings();
        passTo980(ship);
        ship.pass(19);
        ship.take(1);
        for (int i = 0; i < 6; i++) {
            ship.seen(0, 0, 0);
        }
        Due.writeAll(ship, "s".repeat(200));
        s.refused(ship, BAD, () -> ship.pass(21), () -> ship.put(0, 1, 9), () -> ship.smell(1, 6), () -> ship.take(4),
            () -> ship.write(127), () -> ship.seen(9, 0, 0), () -> ship.crew(1, 6), () -> ship.gale(0),
            () -> ship.brings(ship.count(3), ship.count(4), 2), () -> ship.stowaway(2));
    }
}
