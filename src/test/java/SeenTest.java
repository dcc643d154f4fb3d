/** Promises 22 to 25: what was seen, and who it can be by. */
public final class SeenTest {
    private static final int BAD = -1, FULL = -3, NONE = -4;
    private static final Due DUE = new Due("SeenTest");

    public static void main(String[] args) {
        promise22Seen();
        promise22ByHowAllStandsNow();
        promise23Forget();
        promise24May();
        promise24MayOfEachKind();
        promise25Stowaway();
        promise25StowawayFirst();
        nothingChangesByAsking();
        DUE.end();
    }

    private static void promise22Seen() {
        SmellMoorings ship = new SmellMoorings();
        int[][] bad = {{-1, 0, 0}, {9, 0, 0}, {0, -1, 0}, {0, 9, 0}, {0, 0, -1}, {0, 0, 5},
            {Integer.MAX_VALUE, 0, 0}, {0, Integer.MIN_VALUE, 0}, {0, 0, Integer.MAX_VALUE}};
        for (int[] b : bad) {
            DUE.due("seen(" + b[0] + ", " + b[1] + ", " + b[2] + ")", BAD, ship.seen(b[0], b[1], b[2]));
        }
        DUE.due("none is seen", 0, ship.count(9));
        DUE.due("seen(0, 0, 0)", 1, ship.seen(0, 0, 0));
        DUE.due("seen(8, 8, 4)", 2, ship.seen(8, 8, 4));
        DUE.due("the same again", 3, ship.seen(8, 8, 4));
        DUE.due("another way there", 4, ship.seen(8, 8, 1));
        ship.pass(1);
        ship.keep();
        ship.back();
        ship.wind(1, 1);
        ship.undo();
        DUE.due("seen stays", 5, ship.seen(3, 3, 3));
        DUE.due("seen(4, 4, 2)", 6, ship.seen(4, 4, 2));
        DUE.due("a seventh", FULL, ship.seen(4, 4, 2));
        DUE.due("a bad seventh", BAD, ship.seen(9, 4, 2));
        DUE.due("six are seen", 6, ship.count(9));
        DUE.due("none to undo", 0, ship.count(10));
    }

    private static void promise22ByHowAllStandsNow() {
        SmellMoorings ship = Due.laid("s4,4,0;p8,4,0;p4,8,1;c0,0,6;");
        ship.seen(4, 4, 2);
        DUE.due("may(0, 0)", 992, ship.may(0, 0));
        ship.take(0);
        DUE.due("nothing draws right now", 0, ship.may(0, 0));
        ship.wind(2, 1);
        DUE.due("the wind does", 1022, ship.may(0, 0));
        ship.undo();
        ship.undo();
        DUE.due("undone", 992, ship.may(0, 0));
        ship.pass(2);
        DUE.due("where the ship is now is the same to it", 992, ship.may(0, 0));
        ship.put(0, 6, 4);
        DUE.due("nearer", 1016, ship.may(0, 0));
    }

    private static void promise23Forget() {
        SmellMoorings ship = new SmellMoorings();
        DUE.due("forget() of none", 0, ship.forget());
        for (int i = 0; i < 6; i++) {
            ship.seen(0, 0, i % 5);
        }
        DUE.due("may(0, 0)", 0, ship.may(0, 0));
        DUE.due("forget()", 6, ship.forget());
        DUE.due("count(9)", 0, ship.count(9));
        DUE.due("forget() again", 0, ship.forget());
        DUE.due("may(0, 0) of nothing seen", 1022, ship.may(0, 0));
        DUE.due("seen(0, 0, 0)", 1, ship.seen(0, 0, 0));
    }

    private static void promise24May() {
        SmellMoorings ship = Due.laid("s4,4,0;p8,4,0;p4,8,1;c0,0,6;");
        DUE.due("nothing seen: noses", 1022, ship.may(0, 0));
        DUE.due("nothing seen: smells", 63, ship.may(0, 1));
        DUE.due("nothing seen: kinds", 15, ship.may(0, 2));
        int[][] bad = {{-1, 0}, {1, 0}, {7, 0}, {0, -1}, {0, 3}, {Integer.MIN_VALUE, 0}, {0, Integer.MAX_VALUE}};
        for (int[] b : bad) {
            DUE.due("may(" + b[0] + ", " + b[1] + ")", BAD, ship.may(b[0], b[1]));
        }
        ship.seen(4, 4, 2);
        DUE.due("drawn from 4 apart: noses", 992, ship.may(0, 0));
        DUE.due("drawn from 4 apart: smells", 1, ship.may(0, 1));
        DUE.due("drawn from 4 apart: kinds", 7, ship.may(0, 2));
        ship.seen(8, 4, 0);
        DUE.due("not drawn at the post: noses", 992, ship.may(0, 0));
        ship.seen(0, 4, 0);
        DUE.due("not drawn from 8 apart: noses", 480, ship.may(0, 0));
        DUE.due("not drawn from 8 apart: kinds", 1, ship.may(0, 2));
        ship.seen(4, 4, 0);
        DUE.due("never both: noses", 0, ship.may(0, 0));
        DUE.due("never both: smells", 0, ship.may(0, 1));
        DUE.due("never both: kinds", 0, ship.may(0, 2));
    }

    private static void promise24MayOfEachKind() {
        // 2 apart from the post that is to the right, the ship as heavy as 9.
        String[] texts = {"c0,0,1;", "c1,0,1;", "c2,0,1;", "c3,0,1;"};
        int[] stays = {1022, 1022, 254, 30};
        int[] goes = {0, 0, 768, 992};
        for (int kind = 0; kind < 4; kind++) {
            SmellMoorings ship = Due.laid("s0,0,9;p6,4,0;" + texts[kind]);
            ship.seen(4, 4, 0);
            DUE.due("kind " + kind + " stays: noses", stays[kind], ship.may(0, 0));
            ship.forget();
            ship.seen(4, 4, 2);
            DUE.due("kind " + kind + " goes: noses", goes[kind], ship.may(0, 0));
        }
        SmellMoorings ship = Due.laid("s0,0,9;p6,4,0;p4,3,5;c0,0,8;c0,1,9;");
        ship.seen(4, 4, 2);
        DUE.due("kinds of one that goes: 10 homesick, 16 numb", 12, ship.may(0, 2));
        DUE.due("kinds of another in vain", 0, ship.may(1, 2));
        DUE.due("smells of another: 7 more to the right", 1, ship.may(1, 1));
        ship.forget();
        ship.seen(4, 4, 0);
        DUE.due("kinds of one that stays", 3, ship.may(0, 2));
        DUE.due("kinds of another", 15, ship.may(1, 2));
        DUE.due("smells", 63, ship.may(0, 1));
        // Off the field it stays.
        ship = Due.laid("s0,0,0;w2,5;p4,4,0;c0,5,8;");
        ship.seen(8, 8, 0);
        DUE.due("held by the edge", 1022, ship.may(0, 0));
        ship.seen(7, 8, 2);
        DUE.due("beside it", 1022, ship.may(0, 0));
        ship.seen(7, 8, 0);
        DUE.due("all that is seen, not one of it", 0, ship.may(0, 0));
    }

    private static void promise25Stowaway() {
        SmellMoorings ship = Due.laid("s4,4,0;p8,4,0;p4,8,1;c0,0,6;");
        for (int what : new int[] {-1, 2, Integer.MIN_VALUE, Integer.MAX_VALUE}) {
            DUE.due("stowaway(" + what + ")", BAD, ship.stowaway(what));
        }
        DUE.due("nothing seen: how many", 54, ship.stowaway(0));
        DUE.due("nothing seen: the first", 1, ship.stowaway(1));
        ship.seen(4, 4, 2);
        DUE.due("right: how many", 51, ship.stowaway(0));
        DUE.due("right: the first", 1, ship.stowaway(1));
        ship.seen(0, 4, 0);
        DUE.due("and stays from 8 apart: how many", 50, ship.stowaway(0));
        ship.seen(0, 4, 2);
        DUE.due("never both: how many", 0, ship.stowaway(0));
        DUE.due("never both: the first", NONE, ship.stowaway(1));
    }

    private static void promise25StowawayFirst() {
        SmellMoorings ship = Due.laid("s4,4,0;p8,4,3;p4,8,1;c0,5,1;");
        ship.seen(4, 4, 3);
        DUE.due("down: how many", 5, ship.stowaway(0));
        DUE.due("down: the first", 15, ship.stowaway(1));
        ship.forget();
        ship.seen(4, 4, 2);
        DUE.due("right: the first", 35, ship.stowaway(1));
        ship.take(0);
        DUE.due("taken away: the first", NONE, ship.stowaway(1));
        ship.smell(1, 5);
        ship.seen(0, 0, 0);
        ship.forget();
        ship.seen(4, 1, 3);
        DUE.due("down from 7 apart: how many", 2, ship.stowaway(0));
        DUE.due("down from 7 apart: the first", 58, ship.stowaway(1));
        ship = Due.laid("s4,4,0;p8,4,0;" + "c0,5,1;".repeat(7));
        ship.seen(4, 4, 2);
        DUE.due("an eighth: how many", 5, ship.stowaway(0));
        DUE.due("an eighth: the first", 5, ship.stowaway(1));
        DUE.due("seven are there", 7, ship.count(1));
        DUE.due("and no eighth", BAD, ship.crew(7, 0));
    }

    private static void nothingChangesByAsking() {
        SmellMoorings ship = new SmellMoorings();
        ship.seen(4, 4, 2);
        ship.seen(3, 4, 2);
        ship.may(0, 0);
        ship.may(1, 1);
        ship.may(2, 2);
        ship.stowaway(0);
        int[][] crew = {{0, 0, 6}, {1, 1, 3}, {2, 2, 1}, {3, 0, 5}, {0, 1, 9}};
        for (int c = 0; c < crew.length; c++) {
            for (int what = 0; what < 3; what++) {
                DUE.due("asked: crew(" + c + ", " + what + ")", crew[c][what], ship.crew(c, what));
            }
        }
        int[] counts = {4, 5, 0, 4, 4, 2, 2, 1, 0, 2, 0, 0, 0};
        for (int what = 0; what < counts.length; what++) {
            DUE.due("asked: count(" + what + ")", counts[what], ship.count(what));
        }
    }
}
