/** Promises 28 to 30: fields kept, and counts. */
final class EdgesOfKept {
    private static final int BAD = Sentences.BAD, NO = Sentences.NO, FULL = Sentences.FULL;
    private final Sentences s;

    EdgesOfKept(Sentences sentences) {
        s = sentences;
    }

    void all() {
        keep2AtMost();
        keepRefused();
        keepOfAllThatStands();
        backOfNone();
        backToTheLast();
        backLeavesNothingToUndo();
        countOfEachAtItsLeastAndMost();
        countOfPostsTakenAway();
        countRefused();
    }

    private void keep2AtMost() {
        s.sentence(28, "KEPT is all as it stands, but THE TEXT and what is SEEN: 2 at most.");
        SmellMoorings ship = new SmellMoorings();
        s.due("the first", 1, ship.keep());
        s.due("the second", 2, ship.keep());
        s.due("a third", FULL, ship.keep());
        s.due("back()", 1, ship.back());
        s.due("the second again", 2, ship.keep());
        s.due("a third", FULL, ship.keep());
        s.due("back()", 1, ship.back());
        s.due("back()", 0, ship.back());
        s.due("the first again", 1, ship.keep());
        s.due("the second again", 2, ship.keep());
        s.due("a third", FULL, ship.keep());
    }

    private void keepRefused() {
        s.sentence(28, "`int keep()`: KEPT: how many. FULL.");
        SmellMoorings ship = new SmellMoorings();
        ship.wind(1, 5);
        ship.keep();
        ship.wind(3, 6);
        ship.keep();
        ship.wind(4, 7);
        s.refused(ship, FULL, ship::keep, ship::keep);
        s.due("the second is as it was kept", 1, ship.back());
        s.due("force", 6, ship.count(7));
        s.due("the first is as it was kept", 0, ship.back());
        s.due("force", 5, ship.count(7));
    }

    private void keepOfAllThatStands() {
        s.sentence(28, "but THE TEXT and what is SEEN");
        SmellMoorings ship = Due.laid("s4,4,0;w2,3;p1,2,0;p3,4,1;c1,5,1;");
        ship.pass(2);
        ship.take(1);
        ship.seen(1, 1, 1);
        ship.keep();
        ship.write('x');
        ship.seen(2, 2, 2);
        ship.pass(20);
        ship.wind(4, 8);
        ship.put(0, 5, 6);
        ship.smell(0, 4);
        ship.put(1, 3, 3);
        s.due("back()", 0, ship.back());
        int[] counts = {2, 1, 2, 6, 4, 0, 2, 3, 1, 2, 0, 0, 34};
        for (int what = 0; what < counts.length; what++) {
            s.due("count(" + what + ")", counts[what], ship.count(what));
        }
        int[] posts = {1, 2, 0, 0, 3, 4, 1, 1};
        for (int i = 0; i < posts.length; i++) {
            s.due("post(" + i / 4 + ", " + i % 4 + ")", posts[i], ship.post(i / 4, i % 4));
        }
    }

    private void backOfNone() {
        s.sentence(29, "nothing is UNDONE then. NO.");
        SmellMoorings ship = new SmellMoorings();
        ship.wind(1, 5);
        s.refused(ship, NO, ship::back, ship::back);
        ship.keep();
        s.due("back()", 0, ship.back());
        s.refused(ship, NO, ship::back);
    }

    private void backToTheLast() {
        s.sentence(29, "As KEPT last (it is KEPT no more then): how many are left;");
        SmellMoorings ship = new SmellMoorings();
        ship.wind(1, 5);
        ship.keep();
        ship.wind(1, 6);
        ship.keep();
        ship.wind(1, 7);
        s.due("one is left", 1, ship.back());
        s.due("the last one's force", 6, ship.count(7));
        s.due("count(11)", 1, ship.count(11));
        s.due("none is left", 0, ship.back());
        s.due("the first one's force", 5, ship.count(7));
        s.due("count(11)", 0, ship.count(11));
        s.due("no more", NO, ship.back());
    }

    private void backLeavesNothingToUndo() {
        s.sentence(29, "how many are left; nothing is UNDONE then.");
        SmellMoorings ship = new SmellMoorings();
        for (int f = 0; f < 9; f++) {
            ship.wind(1, f);
        }
        ship.keep();
        s.due("kept: count(10)", 8, ship.count(10));
        ship.back();
        s.due("back: count(10)", 0, ship.count(10));
        s.due("undo()", NO, ship.undo());
        s.due("force", 8, ship.count(7));
        ship.wind(1, 20);
        s.due("what came behind it", 0, ship.undo());
        s.due("force", 8, ship.count(7));
    }

    private void countOfEachAtItsLeastAndMost() {
        s.sentence(30, "How many: 0 POSTS, 1 of the CREW, 2 the HOUR");
        SmellMoorings least = Due.laid("s0,0,0;p0,0,0;c0,0,1;");
        least.wipe();
        int[] counts = {1, 1, 0, 0, 0, 0, 0, 0, 0, 0, 0, 0, 0};
        for (int what = 0; what < counts.length; what++) {
            s.due("least: count(" + what + ")", counts[what], least.count(what));
        }
        String text = "s8,8,20;w4,20;" + "p8,8,5;".repeat(5) + "c3,5,9;".repeat(7);
        SmellMoorings most = Due.laid(text);
        for (int i = 0; i < 49; i++) {
            most.pass(20);
        }
        most.pass(19);
        for (int p = 0; p < 5; p++) {
            most.take(p);
        }
        for (int i = 0; i < 9; i++) {
            most.wind(4, 20);
            most.seen(8, 8, 0);
            most.keep();
        }
        Due.writeAll(most, " ".repeat(200 - text.length()));
        int[] full = {5, 7, 999, 8, 8, 20, 4, 20, 5, 6, 8, 2, 200};
        for (int what = 0; what < full.length; what++) {
            s.due("most: count(" + what + ")", full[what], most.count(what));
        }
    }

    private void countOfPostsTakenAway() {
        s.sentence(30, "8 POSTS taken away");
        SmellMoorings ship = new SmellMoorings();
        for (int p = 0; p < 4; p++) {
            s.due("count(8)", p, ship.count(8));
            ship.take(p);
            s.due("count(0)", 4, ship.count(0));
        }
        s.due("count(8) of all", 4, ship.count(8));
        ship.put(2, 0, 0);
        s.due("count(8) behind one is back", 3, ship.count(8));
        ship.undo();
        s.due("count(8) undone", 4, ship.count(8));
    }

    private void countRefused() {
        s.sentence(30, "12 letters of THE TEXT. BAD.");
        SmellMoorings ship = new SmellMoorings();
        s.refused(ship, BAD, () -> ship.count(-1), () -> ship.count(13), () -> ship.count(Integer.MIN_VALUE),
            () -> ship.count(Integer.MAX_VALUE));
        s.due("count(0)", 4, ship.count(0));
        s.due("count(12)", 0, ship.count(12));
    }
}
