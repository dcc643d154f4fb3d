/** Promises 6 to 8: posts, what draws whom where, how it adds up and where the ship goes. */
final class EdgesOfDraws {
    private static final int BAD = Sentences.BAD, NONE = Sentences.NONE;
    private final Sentences s;

    EdgesOfDraws(Sentences sentences) {
        s = sentences;
    }

    void all() {
        postRefused();
        postTakenAway();
        postsSuchAsThereAre();
        crewRefused();
        crewByTheNearest();
        crewByThoseNotTakenAway();
        crewPlain();
        crewCook();
        crewHomesick();
        crewNumb();
        crewDrawnAcrossOrAlong();
        crewDrawnNotAtAll();
        crewDrawnByNothing();
        crewNearestThatDoesNotDraw();
        pullRefused();
        pullTold500More();
        pullNoWindNowhere();
        staysByItsWeight();
        goesAcrossOrAlong();
        staysAtTheEdges();
    }

    private void postRefused() {
        s.sentence(6, "Of a POST: x (what = 0), y (1), SMELL (2), 1 if it is taken away (3). BAD.");
        SmellMoorings ship = new SmellMoorings();
        s.refused(ship, BAD, () -> ship.post(-1, 0), () -> ship.post(4, 0), () -> ship.post(5, 3), () -> ship.post(0, -1),
            () -> ship.post(3, 4), () -> ship.post(Integer.MIN_VALUE, 0), () -> ship.post(Integer.MAX_VALUE, 0),
            () -> ship.post(0, Integer.MIN_VALUE), () -> ship.post(0, Integer.MAX_VALUE));
        s.due("post(0, 0)", 1, ship.post(0, 0));
        s.due("post(3, 3)", 0, ship.post(3, 3));
    }

    private void postTakenAway() {
        s.sentence(6, "1 if it is taken away (3)");
        SmellMoorings ship = new SmellMoorings();
        s.due("not taken away", 0, ship.post(3, 3));
        ship.take(3);
        int[] taken = {8, 8, 0, 1};
        for (int what = 0; what < 4; what++) {
            s.due("taken away: post(3, " + what + ")", taken[what], ship.post(3, what));
        }
        s.due("the one before it", 0, ship.post(2, 3));
        ship.put(3, 8, 8);
        s.due("back", 0, ship.post(3, 3));
    }

    private void postsSuchAsThereAre() {
        s.sentence(6, "BAD: a number is none that is told (POSTS, of the CREW: such as there are; cells of THE FIELD).");
        SmellMoorings ship = Due.laid("p1,2,3;p2,3,4;p3,4,5;p4,5,0;p5,6,1;c0,0,1;c0,0,2;c0,0,3;c0,0,4;c0,0,5;c0,0,6;c0,0,7;");
        s.due("the last of five posts", 5, ship.post(4, 0));
        s.due("a sixth", BAD, ship.post(5, 0));
        s.due("the last of seven", 7, ship.crew(6, 2));
        s.due("an eighth", BAD, ship.crew(7, 2));
        ship.hold();
        ship.brings(0, 0, 0);
        ship.stowaway(0);
        s.due("a sixth that was only asked about", BAD, ship.post(5, 0));
        s.due("an eighth that was only asked about", BAD, ship.crew(7, 2));
        ship.wipe();
        Due.writeAll(ship, "p8,8,1;c1,1,8;");
        ship.lay();
        s.due("the one post", 8, ship.post(0, 0));
        s.due("one that was", BAD, ship.post(1, 0));
        s.due("the one of the crew", 8, ship.crew(0, 2));
        s.due("one that was", BAD, ship.crew(1, 2));
        s.refused(ship, BAD, () -> ship.post(1, 0), () -> ship.crew(1, 0), () -> ship.put(1, 0, 0), () -> ship.smell(1, 0),
            () -> ship.take(1), () -> ship.may(1, 0), () -> ship.put(0, 9, 0), () -> ship.seen(0, 9, 0),
            () -> ship.brings(9, 9, 0));
    }

    private void crewRefused() {
        s.sentence(7, "to where (5; 0 nowhere, 1 up, 2 right, 3 down, 4 left). BAD.");
        SmellMoorings ship = new SmellMoorings();
        s.refused(ship, BAD, () -> ship.crew(-1, 0), () -> ship.crew(5, 0), () -> ship.crew(6, 5), () -> ship.crew(0, -1),
            () -> ship.crew(4, 6), () -> ship.crew(Integer.MIN_VALUE, 0), () -> ship.crew(Integer.MAX_VALUE, 3),
            () -> ship.crew(0, Integer.MIN_VALUE), () -> ship.crew(0, Integer.MAX_VALUE));
        s.due("crew(4, 5)", 2, ship.crew(4, 5));
        s.due("crew(0, 0)", 0, ship.crew(0, 0));
        SmellMoorings none = Due.laid("p0,0,0;c0,1,1;");
        s.due("there is none", NONE, none.crew(0, 3));
        s.refused(none, BAD, () -> none.crew(1, 3), () -> none.crew(0, 6));
    }

    private void crewByTheNearest() {
        s.sentence(7, "(as far as cells right or left and up or down together; of several the lowest)");
        // Apart 2 and 2, 0 and 3, 3 and 0: 4, 3 and 3 together.
        SmellMoorings ship = Due.laid("s4,4,0;p6,6,0;p4,7,0;p1,4,0;c1,0,1;");
        s.due("the nearer one", 1, ship.crew(0, 3));
        ship.put(1, 4, 8);
        s.due("the other one", 2, ship.crew(0, 3));
        ship.put(2, 0, 4);
        s.due("of three as far the lowest", 0, ship.crew(0, 3));
        ship.put(0, 7, 6);
        s.due("of two as far the lowest", 1, ship.crew(0, 3));
        s.due("to there", 3, ship.crew(0, 5));
        ship.put(0, 4, 4);
        s.due("the one where the ship is", 0, ship.crew(0, 3));
        ship.put(1, 4, 4);
        s.due("of two there the lowest", 0, ship.crew(0, 3));
    }

    private void crewByThoseNotTakenAway() {
        s.sentence(7, "DRAWN one of the CREW is to the nearest POST of its SMELL that is not taken away");
        SmellMoorings ship = Due.laid("s4,4,0;p5,4,5;p6,4,0;p4,7,0;c1,0,4;");
        s.due("none of another smell", 1, ship.crew(0, 3));
        ship.take(1);
        s.due("none that is taken away", 2, ship.crew(0, 3));
        s.due("as strongly", 4, ship.crew(0, 4));
        s.due("to there", 3, ship.crew(0, 5));
        ship.take(2);
        s.due("none is left", NONE, ship.crew(0, 3));
        s.due("not at all", 0, ship.crew(0, 4));
        s.due("nowhere", 0, ship.crew(0, 5));
        ship.put(1, 2, 4);
        s.due("back", 1, ship.crew(0, 3));
        s.due("left", 4, ship.crew(0, 5));
        ship.smell(0, 0);
        s.due("another smell", 0, ship.crew(0, 3));
    }

    /** One of this kind and nose, drawn by a post that is so far to the right of the ship, in its column from 0 on. */
    private void dueStrength(int kind, int nose, int far, int strength) {
        int right = Math.min(8, far);
        SmellMoorings ship = Due.laid("s0,0,20;p" + right + "," + (far - right) + ",0;c" + kind + ",0," + nose + ";");
        String one = "kind " + kind + ", nose " + nose + ", " + far + " apart: ";
        s.due(one + "nearest", 0, ship.crew(0, 3));
        s.due(one + "strength", strength, ship.crew(0, 4));
        s.due(one + "to", strength == 0 ? 0 : 2, ship.crew(0, 5));
        s.due(one + "pull(0)", 500 + strength, ship.pull(0));
        s.due(one + "pull(1)", 500, ship.pull(1));
    }

    private void crewPlain() {
        s.sentence(7, "as strongly as its NOSE less how far it is (0 at least)");
        dueStrength(0, 9, 1, 8);
        dueStrength(0, 9, 8, 1);
        dueStrength(0, 9, 9, 0);
        dueStrength(0, 9, 10, 0);
        dueStrength(0, 9, 16, 0);
        dueStrength(0, 1, 1, 0);
        dueStrength(0, 1, 2, 0);
        dueStrength(0, 2, 1, 1);
        dueStrength(0, 1, 16, 0);
    }

    private void crewCook() {
        s.sentence(7, "a COOK as its NOSE, however far");
        dueStrength(1, 1, 1, 1);
        dueStrength(1, 9, 1, 9);
        dueStrength(1, 1, 16, 1);
        dueStrength(1, 9, 16, 9);
    }

    private void crewHomesick() {
        s.sentence(7, "one that is HOMESICK as its NOSE and how far it is (12 at most)");
        dueStrength(2, 1, 1, 2);
        dueStrength(2, 9, 2, 11);
        dueStrength(2, 9, 3, 12);
        dueStrength(2, 9, 4, 12);
        dueStrength(2, 1, 10, 11);
        dueStrength(2, 1, 11, 12);
        dueStrength(2, 1, 12, 12);
        dueStrength(2, 1, 16, 12);
        dueStrength(2, 9, 16, 12);
    }

    private void crewNumb() {
        s.sentence(7, "one that is NUMB twice its NOSE, if it is 2 or nearer, else not at all");
        dueStrength(3, 1, 1, 2);
        dueStrength(3, 9, 1, 18);
        dueStrength(3, 1, 2, 2);
        dueStrength(3, 9, 2, 18);
        dueStrength(3, 1, 3, 0);
        dueStrength(3, 9, 3, 0);
        dueStrength(3, 9, 16, 0);
        SmellMoorings ship = Due.laid("s4,4,0;p5,5,0;c3,0,9;");
        s.due("1 and 1 are 2 together", 18, ship.crew(0, 4));
        ship.put(0, 5, 6);
        s.due("1 and 2 are 3 together", 0, ship.crew(0, 4));
    }

    private void crewDrawnAcrossOrAlong() {
        s.sentence(7, "It is drawn right or left, if it is as far or farther that way than up or down, else up or down");
        // How far to the right, how far down, to where.
        int[][] rows = {{1, 0, 2}, {-1, 0, 4}, {0, 1, 3}, {0, -1, 1}, {2, 2, 2}, {2, -2, 2}, {-2, 2, 4}, {-2, -2, 4}, {2, 3, 3},
            {2, -3, 1}, {-2, 3, 3}, {-2, -3, 1}, {3, 2, 2}, {3, -2, 2}, {-3, 2, 4}, {-3, -2, 4}, {4, 4, 2}, {-4, -4, 4},
            {3, 4, 3}, {4, 3, 2}, {-3, -4, 1}, {-4, -3, 4}};
        SmellMoorings ship = Due.laid("s4,4,0;p0,8,0;c1,0,7;");
        for (int[] r : rows) {
            ship.put(0, 4 + r[0], 4 + r[1]);
            String where = r[0] + " to the right, " + r[1] + " down: ";
            s.due(where + "to", r[2], ship.crew(0, 5));
            s.due(where + "as strongly", 7, ship.crew(0, 4));
            s.due(where + "pull(0)", r[2] == 2 ? 507 : r[2] == 4 ? 493 : 500, ship.pull(0));
            s.due(where + "pull(1)", r[2] == 3 ? 507 : r[2] == 1 ? 493 : 500, ship.pull(1));
            s.due(where + "pull(2)", r[2], ship.pull(2));
        }
    }

    private void crewDrawnNotAtAll() {
        s.sentence(7, "not at all (0, to nowhere), if the POST is where the SHIP is, or there is none");
        for (int kind = 0; kind < 4; kind++) {
            for (int nose = 1; nose <= 9; nose += 8) {
                // The farther one of its smell does not draw instead.
                SmellMoorings ship = Due.laid("s4,4,0;p5,4,0;p4,4,0;c" + kind + ",0," + nose + ";c" + kind + ",1," + nose + ";");
                String one = "kind " + kind + ", nose " + nose + ": ";
                s.due(one + "where the ship is: nearest", 1, ship.crew(0, 3));
                s.due(one + "where the ship is: strength", 0, ship.crew(0, 4));
                s.due(one + "where the ship is: to", 0, ship.crew(0, 5));
                s.due(one + "there is none: nearest", NONE, ship.crew(1, 3));
                s.due(one + "there is none: strength", 0, ship.crew(1, 4));
                s.due(one + "there is none: to", 0, ship.crew(1, 5));
                s.due(one + "pull(0)", 500, ship.pull(0));
                s.due(one + "pull(1)", 500, ship.pull(1));
            }
        }
    }

    private void crewDrawnByNothing() {
        s.sentence(7, "to nowhere, if that is 0.");
        SmellMoorings ship = Due.laid("s4,4,0;p8,4,0;p4,0,1;c0,0,4;c0,0,5;c3,1,9;c0,1,4;c0,1,5;");
        int[] to = {0, 2, 0, 0, 1};
        int[] strength = {0, 1, 0, 0, 1};
        for (int c = 0; c < 5; c++) {
            s.due("crew(" + c + ", 4)", strength[c], ship.crew(c, 4));
            s.due("crew(" + c + ", 5)", to[c], ship.crew(c, 5));
        }
    }

    private void crewNearestThatDoesNotDraw() {
        s.sentence(7, "the nearest POST of its SMELL that is not taken away, be it DRAWN there or not (3; NONE)");
        SmellMoorings ship = Due.laid("s4,4,0;p0,0,5;p8,8,0;p0,4,1;p4,4,2;c0,0,1;c3,1,9;c1,2,9;c2,3,9;c0,4,9;");
        int[] nearest = {1, 2, 3, NONE, NONE};
        for (int c = 0; c < 5; c++) {
            s.due("crew(" + c + ", 3)", nearest[c], ship.crew(c, 3));
            s.due("crew(" + c + ", 4)", 0, ship.crew(c, 4));
            s.due("crew(" + c + ", 5)", 0, ship.crew(c, 5));
        }
        ship.take(1);
        s.due("taken away", NONE, ship.crew(0, 3));
    }

    private void pullRefused() {
        s.sentence(8, "where the SHIP goes (2; 0: it stays). BAD.");
        SmellMoorings ship = new SmellMoorings();
        s.due("pull(2)", 2, ship.pull(2));
        s.refused(ship, BAD, () -> ship.pull(-1), () -> ship.pull(3), () -> ship.pull(Integer.MIN_VALUE),
            () -> ship.pull(Integer.MAX_VALUE));
        s.due("it stays", 0, Due.laid("p0,0,0;c0,1,1;").pull(2));
    }

    private void pullTold500More() {
        s.sentence(8, "PULL is told 500 more.");
        String crew = "c3,0,9;".repeat(7);
        s.due("the most: pull(0)", 646, Due.laid("s4,4,0;w2,20;p6,4,0;" + crew).pull(0));
        s.due("the least: pull(0)", 354, Due.laid("s4,4,0;w4,20;p2,4,0;" + crew).pull(0));
        s.due("the most: pull(1)", 646, Due.laid("s4,4,0;w3,20;p4,6,0;" + crew).pull(1));
        s.due("the least: pull(1)", 354, Due.laid("s4,4,0;w1,20;p4,2,0;" + crew).pull(1));
        SmellMoorings ship = Due.laid("s4,4,0;p4,4,0;" + crew);
        s.due("nothing: pull(0)", 500, ship.pull(0));
        s.due("nothing: pull(1)", 500, ship.pull(1));
    }

    private void pullNoWindNowhere() {
        s.sentence(8, "(0 nowhere, 1 up, 2 right, 3 down, 4 left) with force F");
        SmellMoorings ship = Due.laid("s4,4,0;w0,20;p0,0,0;c0,5,1;");
        int[][] pulls = {{500, 500, 0}, {500, 480, 1}, {520, 500, 2}, {500, 520, 3}, {480, 500, 4}};
        for (int d = 0; d <= 4; d++) {
            ship.wind(d, 20);
            for (int what = 0; what < 3; what++) {
                s.due("wind(" + d + ", 20): pull(" + what + ")", pulls[d][what], ship.pull(what));
            }
            ship.wind(d, 0);
            for (int what = 0; what < 3; what++) {
                s.due("wind(" + d + ", 0): pull(" + what + ")", what < 2 ? 500 : 0, ship.pull(what));
            }
        }
    }

    private void staysByItsWeight() {
        s.sentence(8, "In an HOUR the SHIP stays, if both are, either way, as much as it is heavy or less");
        for (int heavy = 0; heavy <= 20; heavy++) {
            SmellMoorings ship = Due.laid("s4,4," + heavy + ";p0,0,0;c0,5,1;");
            for (int d = 1; d <= 4; d++) {
                ship.wind(d, heavy);
                s.due("heavy " + heavy + ", as much to " + d, 0, ship.pull(2));
                if (heavy < 20) {
                    ship.wind(d, heavy + 1);
                    s.due("heavy " + heavy + ", 1 more to " + d, d, ship.pull(2));
                }
            }
        }
        // The wind up or down and a cook to the right or left, as much as it is heavy and 1 more.
        for (int i = 0; i < 4; i++) {
            int to = i < 2 ? 1 : 3;
            int cook = i % 2 == 0 ? 2 : 4;
            SmellMoorings ship = Due.laid("s4,4,5;w" + to + ",5;p" + (cook == 2 ? 8 : 0) + ",4,0;c1,0,5;");
            s.due("both as much, " + to + " and " + cook, 0, ship.pull(2));
            ship.wind(to, 6);
            s.due("one 1 more, " + to + " and " + cook, to, ship.pull(2));
            ship = Due.laid("s4,4,5;w" + to + ",5;p" + (cook == 2 ? 8 : 0) + ",4,0;c1,0,6;");
            s.due("the other 1 more, " + to + " and " + cook, cook, ship.pull(2));
        }
    }

    private void goesAcrossOrAlong() {
        s.sentence(8, "else it goes a cell right or left, if that is as much as down or up, or more, either way, else down or up");
        for (int i = 0; i < 4; i++) {
            int to = i < 2 ? 1 : 3;
            int cook = i % 2 == 0 ? 2 : 4;
            SmellMoorings ship = Due.laid("s4,4,0;w" + to + ",7;p" + (cook == 2 ? 8 : 0) + ",4,0;c1,0,7;");
            s.due("as much, " + to + " and " + cook, cook, ship.pull(2));
            ship.wind(to, 6);
            s.due("more across, " + to + " and " + cook, cook, ship.pull(2));
            ship.wind(to, 8);
            s.due("more along, " + to + " and " + cook, to, ship.pull(2));
            s.due("an hour goes by", 0, ship.pass(1));
            s.due("x", 4, ship.count(3));
            s.due("y", to == 1 ? 3 : 5, ship.count(4));
        }
    }

    private void staysAtTheEdges() {
        s.sentence(8, "it stays, if that is off THE FIELD.");
        // x, y, to where the wind goes, where a cook draws less strongly.
        int[][] rows = {{0, 4, 4, 0, 8}, {8, 4, 2, 8, 0}, {4, 0, 1, 8, 0}, {4, 8, 3, 0, 8}, {0, 0, 4, 0, 8}, {0, 0, 1, 8, 0},
            {8, 8, 2, 8, 0}, {8, 8, 3, 0, 8}};
        for (int[] r : rows) {
            String told = "s" + r[0] + "," + r[1] + ",0;w" + r[2] + ",9;p" + r[3] + "," + r[4] + ",0;c1,0,4;";
            SmellMoorings ship = Due.laid(told);
            s.due(told + " pull(2)", 0, ship.pull(2));
            s.due(told + " pass(20)", 20, ship.pass(20));
            s.due(told + " x", r[0], ship.count(3));
            s.due(told + " y", r[1], ship.count(4));
            ship.wind(r[2], 3);
            s.due(told + " less wind: it goes the other way", 0, ship.pass(1));
        }
        for (int[] r : new int[][] {{1, 4, 4}, {7, 4, 2}, {4, 1, 1}, {4, 7, 3}}) {
            SmellMoorings ship = Due.laid("s" + r[0] + "," + r[1] + ",0;w" + r[2] + ",9;p4,4,0;c1,5,4;");
            s.due("a cell from the edge to " + r[2], r[2], ship.pull(2));
            s.due("two hours", 1, ship.pass(2));
        }
    }
}
