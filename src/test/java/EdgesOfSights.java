/** Promises 22 to 25: what was seen, and who it can be by. */
final class EdgesOfSights {
    private static final int BAD = Sentences.BAD, FULL = Sentences.FULL, NONE = Sentences.NONE;
    private final Sentences s;

    EdgesOfSights(Sentences sentences) {
        s = sentences;
    }

    void all() {
        seen6AtMost();
        seenFromEdgeToEdge();
        seenRefused();
        seenThatItStays();
        seenByHowAllStands();
        forgetNoneAndAll();
        mayNoses();
        maySmells();
        mayKinds();
        mayInPlaceOfItsOwn();
        mayNobody();
        mayRefused();
        stowawayHowMany();
        stowawayTheFirst();
        stowawayNone();
        stowawayAnEighth();
        stowawayRefused();
    }

    private void seen6AtMost() {
        s.sentence(22, "SEEN (6 at most) is that");
        SmellMoorings ship = new SmellMoorings();
        for (int many = 1; many <= 6; many++) {
            s.due("seen(4, 4, 2)", many, ship.seen(4, 4, 2));
        }
        s.due("a seventh", FULL, ship.seen(4, 4, 2));
        s.due("forget()", 6, ship.forget());
        for (int many = 1; many <= 6; many++) {
            s.due("seen(3, 3, 3) behind it", many, ship.seen(3, 3, 3));
        }
        s.due("a seventh", FULL, ship.seen(3, 3, 3));
        // The sixth counts as the first does.
        SmellMoorings other = Due.laid("s4,4,0;p8,4,0;c1,0,5;");
        for (int i = 0; i < 5; i++) {
            other.seen(4, 4, 2);
        }
        s.due("five that are so", 1022, other.may(0, 0));
        other.seen(7, 8, 1);
        s.due("and a sixth that is so", 1022, other.may(0, 0));
        other.forget();
        for (int i = 0; i < 5; i++) {
            other.seen(4, 4, 2);
        }
        other.seen(4, 4, 1);
        s.due("and a sixth that is not", 0, other.may(0, 0));
    }

    private void seenFromEdgeToEdge() {
        s.sentence(22, "were the SHIP at x, y, all else as now, it would go in the next HOUR to D");
        SmellMoorings ship = Due.laid("s4,4,0;p0,0,0;p8,8,1;c1,1,5;");
        s.due("seen(0, 0, 2)", 1, ship.seen(0, 0, 2));
        s.due("seen(8, 0, 3)", 2, ship.seen(8, 0, 3));
        s.due("seen(0, 8, 2)", 3, ship.seen(0, 8, 2));
        s.due("seen(8, 8, 0)", 4, ship.seen(8, 8, 0));
        s.due("by all cooks of 1 and more", 1022, ship.may(0, 0));
        s.due("by smell 1 alone", 2, ship.may(0, 1));
        s.due("to the left", 5, ship.seen(8, 4, 4));
        s.due("which nobody does", 0, ship.may(0, 0));
        s.due("the ship is where it was: x", 4, ship.count(3));
        s.due("the ship is where it was: y", 4, ship.count(4));
    }

    private void seenRefused() {
        s.sentence(22, "SEEN: how many. BAD; FULL.");
        SmellMoorings ship = new SmellMoorings();
        s.refused(ship, BAD, () -> ship.seen(-1, 0, 0), () -> ship.seen(9, 0, 0), () -> ship.seen(0, -1, 0),
            () -> ship.seen(0, 9, 0), () -> ship.seen(0, 0, -1), () -> ship.seen(0, 0, 5),
            () -> ship.seen(Integer.MIN_VALUE, 0, 0), () -> ship.seen(Integer.MAX_VALUE, 0, 0),
            () -> ship.seen(0, Integer.MIN_VALUE, 0), () -> ship.seen(0, Integer.MAX_VALUE, 0),
            () -> ship.seen(0, 0, Integer.MIN_VALUE), () -> ship.seen(0, 0, Integer.MAX_VALUE));
        for (int d = 0; d <= 4; d++) {
            s.due("seen(8, 8, " + d + ")", d + 1, ship.seen(8, 8, d));
        }
        ship.seen(0, 0, 0);
        s.refused(ship, FULL, () -> ship.seen(0, 0, 0), () -> ship.seen(8, 8, 4));
        s.refused(ship, BAD, () -> ship.seen(9, 0, 0), () -> ship.seen(0, 0, 5));
    }

    private void seenThatItStays() {
        s.sentence(22, "it would go in the next HOUR to D (0: it stays)");
        SmellMoorings ship = Due.laid("s4,4,0;w2,5;p4,4,0;c0,5,8;");
        ship.seen(8, 8, 0);
        s.due("at the edge", 1022, ship.may(0, 0));
        ship.seen(7, 8, 2);
        s.due("beside it", 1022, ship.may(0, 0));
        ship.seen(7, 8, 0);
        s.due("not where it goes", 0, ship.may(0, 0));
        SmellMoorings heavy = Due.laid("s4,4,5;w2,5;p4,4,0;c0,5,8;");
        heavy.seen(1, 1, 0);
        s.due("by its weight", 1022, heavy.may(0, 0));
        heavy.wind(2, 6);
        s.due("no more", 0, heavy.may(0, 0));
    }

    private void seenByHowAllStands() {
        s.sentence(22, "(by how all stands when that is asked, not when it was SEEN)");
        SmellMoorings ship = Due.laid("s4,4,0;p8,4,0;p4,8,1;c0,0,6;");
        ship.seen(4, 4, 2);
        s.due("noses from 5 on", 992, ship.may(0, 0));
        ship.take(0);
        s.due("nothing draws right", 0, ship.may(0, 0));
        s.due("no stowaway does", 0, ship.stowaway(0));
        ship.wind(2, 1);
        s.due("the wind does", 1022, ship.may(0, 0));
        ship.undo();
        ship.undo();
        s.due("all undone", 992, ship.may(0, 0));
        ship.pass(3);
        s.due("the ship elsewhere", 992, ship.may(0, 0));
        ship.put(0, 6, 4);
        s.due("the post nearer", 1016, ship.may(0, 0));
        ship.smell(0, 2);
        s.due("the post of another smell", 0, ship.may(0, 0));
        s.due("seen still", 1, ship.count(9));
    }

    private void forgetNoneAndAll() {
        s.sentence(23, "Nothing is SEEN: how many were.");
        SmellMoorings ship = new SmellMoorings();
        s.due("forget() of none", 0, ship.forget());
        ship.seen(4, 4, 0);
        s.due("may(0, 0)", 0, ship.may(0, 0));
        s.due("forget() of one", 1, ship.forget());
        s.due("may(0, 0) of nothing seen", 1022, ship.may(0, 0));
        for (int i = 0; i < 7; i++) {
            ship.seen(0, 0, 0);
        }
        s.due("forget() of six", 6, ship.forget());
        s.due("forget() again", 0, ship.forget());
        s.due("count(9)", 0, ship.count(9));
    }

    private void mayNoses() {
        s.sentence(24, "NOSES of one of the CREW: N (bits 1 to 9)");
        SmellMoorings ship = Due.laid("s4,4,1;p5,4,0;c1,0,5;");
        s.due("nothing seen", 1022, ship.may(0, 0));
        ship.seen(4, 4, 0);
        s.due("1 alone stays", 2, ship.may(0, 0));
        ship.forget();
        ship.seen(4, 4, 2);
        s.due("from 2 on they go", 1020, ship.may(0, 0));
        ship = Due.laid("s4,4,8;p5,4,0;c1,0,5;");
        ship.seen(4, 4, 2);
        s.due("9 alone goes", 512, ship.may(0, 0));
        ship.forget();
        ship.seen(4, 4, 0);
        s.due("up to 8 they stay", 510, ship.may(0, 0));
    }

    private void maySmells() {
        s.sentence(24, "SMELLS (bits 0 to 5)");
        SmellMoorings ship = Due.laid("s4,4,0;p8,4,0;p0,4,5;p4,0,3;c1,2,5;");
        s.due("nothing seen", 63, ship.may(0, 1));
        ship.seen(4, 4, 2);
        s.due("0 alone", 1, ship.may(0, 1));
        ship.forget();
        ship.seen(4, 4, 4);
        s.due("5 alone", 32, ship.may(0, 1));
        ship.forget();
        ship.seen(4, 4, 0);
        s.due("those of no post", 22, ship.may(0, 1));
    }

    private void mayKinds() {
        s.sentence(24, "KINDS (bits 0 to 3) of one likewise.");
        // A nose of 3, 2 apart: plain 1, cook 3, homesick 5, numb 6.
        int[][] rows = {{0, 0, 0}, {1, 1, 14}, {3, 3, 12}, {5, 7, 8}, {6, 15, 0}};
        for (int[] r : rows) {
            SmellMoorings ship = Due.laid("s4,4," + r[0] + ";p6,4,0;c1,0,3;");
            s.due("heavy " + r[0] + ", nothing seen", 15, ship.may(0, 2));
            ship.seen(4, 4, 0);
            s.due("heavy " + r[0] + ", it stays", r[1], ship.may(0, 2));
            ship.forget();
            ship.seen(4, 4, 2);
            s.due("heavy " + r[0] + ", it goes", r[0] == 0 ? 15 : r[2], ship.may(0, 2));
        }
    }

    private void mayInPlaceOfItsOwn() {
        s.sentence(24, "in place of its own, by which all that is SEEN would be so");
        // 7 to the right by the other cook, who is in nobody's place.
        SmellMoorings ship = Due.laid("s4,4,0;p8,4,0;p0,4,1;c1,1,9;c1,0,7;");
        ship.seen(4, 4, 2);
        s.due("less than 7 to the left", 126, ship.may(0, 0));
        s.due("its own 9 is not one of them: smells", 61, ship.may(0, 1));
        s.due("the other: more than 9", 0, ship.may(1, 0));
        s.due("its nose stays", 9, ship.crew(0, 2));
        s.due("its smell stays", 1, ship.crew(0, 1));
        s.due("its kind stays", 1, ship.crew(0, 0));
        ship.seen(8, 4, 4);
        s.due("both that are seen", 126, ship.may(0, 0));
        ship.seen(0, 4, 0);
        s.due("all three", 0, ship.may(0, 0));
    }

    private void mayNobody() {
        s.sentence(24, "would be so; SMELLS (bits 0 to 5), KINDS (bits 0 to 3)");
        SmellMoorings ship = new SmellMoorings();
        ship.seen(4, 4, 0);
        ship.seen(4, 4, 1);
        for (int c = 0; c < 5; c++) {
            for (int what = 0; what < 3; what++) {
                s.due("may(" + c + ", " + what + ")", 0, ship.may(c, what));
            }
        }
    }

    private void mayRefused() {
        s.sentence(24, "NOSES (what = 0), SMELLS (1), KINDS (2), as bits. BAD.");
        SmellMoorings ship = new SmellMoorings();
        s.refused(ship, BAD, () -> ship.may(-1, 0), () -> ship.may(5, 0), () -> ship.may(0, -1), () -> ship.may(4, 3),
            () -> ship.may(Integer.MIN_VALUE, 0), () -> ship.may(Integer.MAX_VALUE, 0), () -> ship.may(0, Integer.MIN_VALUE),
            () -> ship.may(0, Integer.MAX_VALUE));
        s.due("may(4, 2)", 15, ship.may(4, 2));
        SmellMoorings full = Due.laid("p0,0,0;" + "c0,0,1;".repeat(7));
        s.due("may(6, 0)", 1022, full.may(6, 0));
        s.due("may(7, 0)", BAD, full.may(7, 0));
    }

    private void stowawayHowMany() {
        s.sentence(25, "STOWAWAY: were there one more, a PLAIN one: of SMELLS and NOSES those by which all that is SEEN would be so: how"
            + " many;");
        SmellMoorings ship = Due.laid("s4,4,0;p8,4,0;p4,8,1;c0,0,6;");
        s.due("nothing seen", 54, ship.stowaway(0));
        ship.seen(4, 4, 2);
        s.due("down by less than 2 to the right", 51, ship.stowaway(0));
        ship.seen(0, 4, 0);
        s.due("nor right from 8 apart", 50, ship.stowaway(0));
        ship.seen(0, 4, 1);
        s.due("nobody", 0, ship.stowaway(0));
    }

    private void stowawayTheFirst() {
        s.sentence(25, "the first (by the SMELL, then the NOSE), 10 times the SMELL, and the NOSE; none.");
        SmellMoorings ship = Due.laid("s4,4,0;p8,8,5;p4,2,4;p4,0,2;c0,0,1;");
        s.due("the first of all", 1, ship.stowaway(1));
        ship.seen(4, 4, 2);
        s.due("the last of all: how many", 1, ship.stowaway(0));
        s.due("the last of all", 59, ship.stowaway(1));
        ship.forget();
        ship.seen(4, 4, 1);
        s.due("the smell before the nose: how many", 12, ship.stowaway(0));
        s.due("the smell before the nose", 25, ship.stowaway(1));
    }

    private void stowawayNone() {
        s.sentence(25, "the first (1; NONE)");
        SmellMoorings ship = new SmellMoorings();
        ship.seen(4, 4, 0);
        ship.seen(4, 4, 1);
        s.due("how many", 0, ship.stowaway(0));
        s.refused(ship, NONE, () -> ship.stowaway(1));
        ship.forget();
        s.due("nothing seen", 1, ship.stowaway(1));
    }

    private void stowawayAnEighth() {
        s.sentence(25, "STOWAWAY: were there one more, a PLAIN one");
        SmellMoorings ship = Due.laid("s4,4,0;p8,4,0;" + "c0,5,1;".repeat(7));
        ship.seen(4, 4, 2);
        s.due("how many", 5, ship.stowaway(0));
        s.due("the first", 5, ship.stowaway(1));
        s.due("seven are there", 7, ship.count(1));
        s.due("and no eighth", BAD, ship.crew(7, 0));
        // A cook would do with a nose of 1, one that is homesick too.
        ship.put(0, 5, 4);
        s.due("a plain one", 2, ship.stowaway(1));
    }

    private void stowawayRefused() {
        s.sentence(25, "the first (1; NONE). BAD.");
        SmellMoorings ship = new SmellMoorings();
        s.refused(ship, BAD, () -> ship.stowaway(-1), () -> ship.stowaway(2), () -> ship.stowaway(Integer.MIN_VALUE),
            () -> ship.stowaway(Integer.MAX_VALUE));
    }
}
