import java.util.Arrays;

/** A great ship held over a field by what her crew smell: ../shared/DOC.md says it, README.md how to use it. */
public final class SmellMoorings {
    public static final int BAD = -1, NO = -2, FULL = -3, NONE = -4;

    private static final String FIRST_TEXT =
            "s4,4,2;w2,1;p1,4,0;p7,2,1;p4,7,2;p8,8,0;c0,0,6;c1,1,3;c2,2,1;c3,0,5;c0,1,9;";

    private static final int TEXT_ROOM = 200, ITEM_NUMBERS = 3, SEEN_ROOM = 6, UNDO_ROOM = 8, KEPT_ROOM = 2;
    private static final int SIDE = 9, LAST_CELL = 8, MOST_HEAVY = 20, MOST_FORCE = 20, LAST_SMELL = 5, MOST_NOSE = 9;
    private static final int MOST_POSTS = 5, MOST_SAILORS = 7;
    private static final int PLAIN = 0, COOK = 1, HOMESICK = 2, NUMB = 3;
    private static final int MOST_HOMESICK = 12, NUMB_REACH = 2;
    private static final int NOWHERE = 0, UP = 1, RIGHT = 2, DOWN = 3, LEFT = 4;
    private static final int LAST_HOUR = 999, MOST_PASS = 20, FAR_HOURS = 40, KEEPS_HOURS = 10;
    private static final int LIKELY_HOURS = 7, TENTHS = 10, LAST_VOYAGE = 9999, VOYAGE_HOURS = 60;
    private static final int TOLD_MORE = 500;

    private final Text text = new Text();
    private final Field now = new Field();
    /** Where things are tried out, so that no question makes objects or changes what stands. */
    private final Field trial = new Field();
    private final Sightings sightings = new Sightings();
    private final Pile undoable = new Pile(UNDO_ROOM);
    private final Pile kept = new Pile(KEPT_ROOM);
    private final int[] chance = new int[SIDE * SIDE];
    private final int[] chanceNext = new int[SIDE * SIDE];

    public SmellMoorings() {
        for (int i = 0; i < FIRST_TEXT.length(); i++) {
            text.addLetter(FIRST_TEXT.charAt(i));
        }
        text.readInto(now);
        text.length = 0;
    }

    // ---- fields

    public int write(int letter) {
        if (!within(letter, 32, 126)) {
            return BAD;
        }
        return text.addLetter(letter) ? text.length : FULL;
    }

    public int wipe() {
        int length = text.length;
        text.length = 0;
        return length;
    }

    public int fault() {
        return text.readInto(trial);
    }

    public int lay() {
        int faultAt = text.readInto(trial);
        if (faultAt != NONE || trial.posts == 0 || trial.sailors == 0) {
            return NO;
        }
        now.copyFrom(trial);
        sightings.many = 0;
        undoable.many = 0;
        kept.many = 0;
        return now.sailors;
    }

    public int post(int p, int what) {
        if (!now.hasPost(p)) {
            return BAD;
        }
        switch (what) {
            case 0: return Rows.at(now.postX, p);
            case 1: return Rows.at(now.postY, p);
            case 2: return Rows.at(now.postSmell, p);
            case 3: return Rows.at(now.postGone, p);
            default: return BAD;
        }
    }

    public int crew(int c, int what) {
        if (!now.hasSailor(c)) {
            return BAD;
        }
        int p = now.nearestPost(c);
        int strength = now.strengthTo(c, p);
        switch (what) {
            case 0: return Rows.at(now.sailorKind, c);
            case 1: return Rows.at(now.sailorSmell, c);
            case 2: return Rows.at(now.sailorNose, c);
            case 3: return p;
            case 4: return strength;
            case 5: return now.headingTo(p, strength);
            default: return BAD;
        }
    }

    public int pull(int what) {
        int to = now.goesTo();
        switch (what) {
            case 0: return now.pullRight + TOLD_MORE;
            case 1: return now.pullDown + TOLD_MORE;
            case 2: return to;
            default: return BAD;
        }
    }

    // ---- acts

    public int pass(int n) {
        if (!within(n, 1, MOST_PASS)) {
            return BAD;
        }
        if (now.hour + n > LAST_HOUR) {
            return NO;
        }
        undoable.push(now);
        return now.goHours(n);
    }

    public int wind(int d, int f) {
        if (!within(d, NOWHERE, LEFT) || !within(f, 0, MOST_FORCE)) {
            return BAD;
        }
        undoable.push(now);
        int before = now.windForce;
        now.windTo = d;
        now.windForce = f;
        return before;
    }

    public int put(int p, int x, int y) {
        if (!now.hasPost(p) || !isCell(x, y)) {
            return BAD;
        }
        int wasGone = Rows.at(now.postGone, p);
        if (wasGone == 0 && Rows.at(now.postX, p) == x && Rows.at(now.postY, p) == y) {
            return NO;
        }
        undoable.push(now);
        Rows.set(now.postX, p, x);
        Rows.set(now.postY, p, y);
        Rows.set(now.postGone, p, 0);
        return wasGone;
    }

    public int smell(int p, int s) {
        if (!now.hasPost(p) || !within(s, 0, LAST_SMELL)) {
            return BAD;
        }
        int before = Rows.at(now.postSmell, p);
        if (before == s || Rows.at(now.postGone, p) != 0) {
            return NO;
        }
        undoable.push(now);
        Rows.set(now.postSmell, p, s);
        return before;
    }

    public int take(int p) {
        if (!now.hasPost(p)) {
            return BAD;
        }
        if (Rows.at(now.postGone, p) != 0) {
            return NO;
        }
        undoable.push(now);
        Rows.set(now.postGone, p, 1);
        return Integer.bitCount(now.standingPosts());
    }

    public int undo() {
        return undoable.popInto(now) ? undoable.many : NO;
    }

    // ---- what comes

    public int behind(int n, int what) {
        if (!within(n, 0, FAR_HOURS) || !within(what, 0, 1)) {
            return BAD;
        }
        trial.copyFrom(now);
        trial.goHours(n);
        return what == 0 ? trial.shipX : trial.shipY;
    }

    public int stands() {
        trial.copyFrom(now);
        for (int hours = 0; hours <= FAR_HOURS; hours++) {
            if (trial.goHours(1) > 0) {
                return hours;
            }
        }
        return NONE;
    }

    public int gale(int d) {
        if (!within(d, UP, LEFT)) {
            return BAD;
        }
        trial.copyFrom(now);
        trial.windTo = d;
        for (int force = MOST_FORCE; force >= 0; force--) {
            trial.windForce = force;
            if (trial.goesTo() == NOWHERE) {
                return force;
            }
        }
        return NONE;
    }

    public int hold() {
        if (now.goesTo() == NOWHERE) {
            return NONE;
        }
        trial.copyFrom(now);
        int more = trial.posts;
        trial.addPost(0, 0, 0);
        for (int s = 0; s <= LAST_SMELL; s++) {
            for (int y = 0; y <= LAST_CELL; y++) {
                for (int x = 0; x <= LAST_CELL; x++) {
                    trial.changePost(more, x, y, s);
                    if (!now.isShipAt(x, y) && trial.goesTo() == NOWHERE) {
                        return nameOf(s, y, x);
                    }
                }
            }
        }
        return NONE;
    }

    public int brings(int x, int y, int what) {
        if (!isCell(x, y) || !within(what, 0, 1)) {
            return BAD;
        }
        if (now.isShipAt(x, y)) {
            return NONE;
        }
        trial.copyFrom(now);
        int more = trial.posts;
        trial.addPost(0, 0, 0);
        int soonest = FAR_HOURS + 1;
        int which = NONE;
        for (int s = 0; s <= LAST_SMELL; s++) {
            for (int cell = 0; cell < SIDE * SIDE; cell++) {
                trial.changePost(more, cell % SIDE, cell / SIDE, s);
                trial.moveShip(now.shipX, now.shipY);
                int hours = trial.hoursTo(x, y, soonest - 1);
                if (hours > 0) {
                    soonest = hours;
                    which = nameOf(s, cell / SIDE, cell % SIDE);
                }
            }
        }
        return which == NONE || what == 0 ? which : soonest;
    }

    public int keeps(int what) {
        if (!within(what, 0, 1)) {
            return BAD;
        }
        trial.copyFrom(now);
        trial.goHours(KEEPS_HOURS);
        int x = trial.shipX;
        int y = trial.shipY;
        int all = now.standingPosts();
        int fewest = all;
        for (int set = 0; set < all; set++) {
            boolean fewer = Integer.bitCount(set) < Integer.bitCount(fewest);
            if (fewer && (set & ~all) == 0 && endsAt(set, x, y)) {
                fewest = set;
            }
        }
        return what == 0 ? Integer.bitCount(fewest) : fewest;
    }

    public int instead() {
        trial.copyFrom(now);
        for (int p = 0; p < now.posts; p++) {
            int own = Rows.at(now.postSmell, p);
            boolean gone = Rows.at(now.postGone, p) != 0;
            for (int s = 0; s <= LAST_SMELL && !gone; s++) {
                Rows.set(trial.postSmell, p, s);
                if (s != own && trial.goesTo() == NOWHERE) {
                    return 10 * p + s;
                }
            }
            Rows.set(trial.postSmell, p, own);
        }
        return NONE;
    }

    // ---- what was seen

    public int seen(int x, int y, int d) {
        if (!isCell(x, y) || !within(d, NOWHERE, LEFT)) {
            return BAD;
        }
        return sightings.addSighting(x, y, d) ? sightings.many : FULL;
    }

    public int forget() {
        int many = sightings.many;
        sightings.many = 0;
        return many;
    }

    public int may(int c, int what) {
        if (!now.hasSailor(c)) {
            return BAD;
        }
        trial.copyFrom(now);
        switch (what) {
            case 0: return bitsThatFit(trial.sailorNose, c, 1, MOST_NOSE);
            case 1: return bitsThatFit(trial.sailorSmell, c, 0, LAST_SMELL);
            case 2: return bitsThatFit(trial.sailorKind, c, PLAIN, NUMB);
            default: return BAD;
        }
    }

    public int stowaway(int what) {
        if (!within(what, 0, 1)) {
            return BAD;
        }
        trial.copyFrom(now);
        int more = trial.sailors;
        trial.addSailor(PLAIN, 0, 1);
        int many = 0;
        int first = NONE;
        for (int s = 0; s <= LAST_SMELL; s++) {
            Rows.set(trial.sailorSmell, more, s);
            for (int nose = 1; nose <= MOST_NOSE; nose++) {
                Rows.set(trial.sailorNose, more, nose);
                if (sightings.areSoIn(trial)) {
                    many++;
                    first = first == NONE ? 10 * s + nose : first;
                }
            }
        }
        return what == 0 ? many : first;
    }

    // ---- chances, voyages

    public int likely(int n, int x, int part) {
        if (!within(n, 0, LIKELY_HOURS) || !within(x, 0, TENTHS) || !within(part, 0, 1)) {
            return BAD;
        }
        int here = cellOf(now.shipX, now.shipY);
        Arrays.fill(chance, 0);
        Rows.set(chance, here, 1);
        int below = 1;
        for (int h = 0; h < n; h++) {
            spreadAnHour(x);
            below *= TENTHS;
        }
        int above = Rows.at(chance, here);
        // What is below has no prime in it but 2 and 5, each n times.
        for (int h = 0; h < n; h++) {
            if (above % 2 == 0 && below % 2 == 0) {
                above /= 2;
                below /= 2;
            }
            if (above % 5 == 0 && below % 5 == 0) {
                above /= 5;
                below /= 5;
            }
        }
        return part == 0 ? above : below;
    }

    public int voyage(int z, int n, int what) {
        if (!within(z, 0, LAST_VOYAGE) || !within(n, 1, VOYAGE_HOURS) || !within(what, 0, 2)) {
            return BAD;
        }
        trial.copyFrom(now);
        int stayed = 0;
        for (int h = 0; h < n; h++) {
            changeByDraw(drawOf(z, h));
            stayed += trial.goHours(1);
        }
        if (what == 2) {
            return stayed;
        }
        return what == 0 ? trial.shipX : trial.shipY;
    }

    // ---- kept

    public int keep() {
        if (kept.many >= KEPT_ROOM) {
            return FULL;
        }
        kept.push(now);
        return kept.many;
    }

    public int back() {
        if (!kept.popInto(now)) {
            return NO;
        }
        undoable.many = 0;
        return kept.many;
    }

    public int count(int what) {
        switch (what) {
            case 0: return now.posts;
            case 1: return now.sailors;
            case 2: return now.hour;
            case 3: return now.shipX;
            case 4: return now.shipY;
            case 5: return now.heavy;
            case 6: return now.windTo;
            case 7: return now.windForce;
            case 8: return now.posts - Integer.bitCount(now.standingPosts());
            case 9: return sightings.many;
            case 10: return undoable.many;
            case 11: return kept.many;
            case 12: return text.length;
            default: return BAD;
        }
    }

    // ---- what the calls share

    private static boolean within(int value, int least, int most) {
        return value >= least && value <= most;
    }

    private static boolean isCell(int x, int y) {
        return x >= 0 && x <= LAST_CELL && y >= 0 && y <= LAST_CELL;
    }

    private static int cellOf(int x, int y) {
        return y * SIDE + x;
    }

    private static int nameOf(int s, int y, int x) {
        return 100 * s + 10 * y + x;
    }

    private boolean endsAt(int set, int x, int y) {
        trial.copyFrom(now);
        for (int p = 0; p < trial.posts; p++) {
            Rows.set(trial.postGone, p, 1 - ((set >> p) & 1));
        }
        trial.goHours(KEEPS_HOURS);
        return trial.isShipAt(x, y);
    }

    private int bitsThatFit(int[] row, int c, int least, int most) {
        int bits = 0;
        for (int value = least; value <= most; value++) {
            Rows.set(row, c, value);
            if (sightings.areSoIn(trial)) {
                bits |= 1 << value;
            }
        }
        return bits;
    }

    private void spreadAnHour(int tenthsCalm) {
        trial.copyFrom(now);
        Arrays.fill(chanceNext, 0);
        for (int cell = 0; cell < SIDE * SIDE; cell++) {
            int weight = Rows.at(chance, cell);
            for (int calm = 0; calm <= 1 && weight > 0; calm++) {
                trial.moveShip(cell % SIDE, cell / SIDE);
                trial.windForce = calm == 1 ? 0 : now.windForce;
                trial.goHours(1);
                int to = cellOf(trial.shipX, trial.shipY);
                int tenths = calm == 1 ? tenthsCalm : TENTHS - tenthsCalm;
                Rows.set(chanceNext, to, Rows.at(chanceNext, to) + weight * tenths);
            }
        }
        Rows.copy(chanceNext, chance);
    }

    private static int drawOf(int z, int hour) {
        long x = 7919L * z + 6151L * hour + 1;
        return (int) (x * x % 65521 / 2);
    }

    private void changeByDraw(int draw) {
        int chosen = draw % 8;
        if (chosen == 0) {
            trial.windTo = draw / 8 % 5;
            trial.windForce = draw / 64 % 10;
        } else if (chosen == 1 && trial.posts > 0) {
            Rows.set(trial.postSmell, draw / 8 % trial.posts, draw / 64 % 6);
        }
    }

    /** Rows read as 0 and are not written beyond their ends, so that no index can throw. */
    private static final class Rows {
        static int at(int[] row, int i) {
            return i >= 0 && i < row.length ? row[i] : 0;
        }

        static void set(int[] row, int i, int value) {
            if (i >= 0 && i < row.length) {
                row[i] = value;
            }
        }

        static void copy(int[] from, int[] to) {
            System.arraycopy(from, 0, to, 0, Math.min(from.length, to.length));
        }
    }

    /** All as it stands, but the text and what is seen. */
    private static final class Field {
        static final int[] STEP_X = {0, 0, 1, 0, -1};
        static final int[] STEP_Y = {0, -1, 0, 1, 0};

        int shipX, shipY, heavy, windTo, windForce, hour, posts, sailors;
        /** What goesTo has reckoned last. */
        int pullRight, pullDown;
        // One more of each than a text can tell: the post or the stowaway that is only asked about.
        final int[] postX = new int[MOST_POSTS + 1];
        final int[] postY = new int[MOST_POSTS + 1];
        final int[] postSmell = new int[MOST_POSTS + 1];
        final int[] postGone = new int[MOST_POSTS + 1];
        final int[] sailorKind = new int[MOST_SAILORS + 1];
        final int[] sailorSmell = new int[MOST_SAILORS + 1];
        final int[] sailorNose = new int[MOST_SAILORS + 1];

        void clear() {
            shipX = 4;
            shipY = 4;
            heavy = 2;
            windTo = NOWHERE;
            windForce = 0;
            hour = 0;
            posts = 0;
            sailors = 0;
        }

        void copyFrom(Field other) {
            shipX = other.shipX;
            shipY = other.shipY;
            heavy = other.heavy;
            windTo = other.windTo;
            windForce = other.windForce;
            hour = other.hour;
            posts = other.posts;
            sailors = other.sailors;
            Rows.copy(other.postX, postX);
            Rows.copy(other.postY, postY);
            Rows.copy(other.postSmell, postSmell);
            Rows.copy(other.postGone, postGone);
            Rows.copy(other.sailorKind, sailorKind);
            Rows.copy(other.sailorSmell, sailorSmell);
            Rows.copy(other.sailorNose, sailorNose);
        }

        boolean hasPost(int p) {
            return p >= 0 && p < posts;
        }

        boolean hasSailor(int c) {
            return c >= 0 && c < sailors;
        }

        boolean isShipAt(int x, int y) {
            return shipX == x && shipY == y;
        }

        void moveShip(int x, int y) {
            shipX = x;
            shipY = y;
        }

        void addPost(int x, int y, int s) {
            if (posts < postX.length) {
                changePost(posts, x, y, s);
                Rows.set(postGone, posts, 0);
                posts++;
            }
        }

        void changePost(int p, int x, int y, int s) {
            Rows.set(postX, p, x);
            Rows.set(postY, p, y);
            Rows.set(postSmell, p, s);
        }

        void addSailor(int kind, int s, int nose) {
            if (sailors < sailorKind.length) {
                Rows.set(sailorKind, sailors, kind);
                Rows.set(sailorSmell, sailors, s);
                Rows.set(sailorNose, sailors, nose);
                sailors++;
            }
        }

        int standingPosts() {
            int bits = 0;
            for (int p = 0; p < posts; p++) {
                if (Rows.at(postGone, p) == 0) {
                    bits |= 1 << p;
                }
            }
            return bits;
        }

        int apart(int p) {
            return Math.abs(Rows.at(postX, p) - shipX) + Math.abs(Rows.at(postY, p) - shipY);
        }

        int nearestPost(int c) {
            int wanted = Rows.at(sailorSmell, c);
            int nearest = NONE;
            int least = 0;
            for (int p = 0; p < posts; p++) {
                if (Rows.at(postSmell, p) == wanted && Rows.at(postGone, p) == 0) {
                    int far = apart(p);
                    if (nearest == NONE || far < least) {
                        nearest = p;
                        least = far;
                    }
                }
            }
            return nearest;
        }

        int strengthTo(int c, int p) {
            int far = hasPost(p) ? apart(p) : 0;
            if (far == 0) {
                return 0;
            }
            int nose = Rows.at(sailorNose, c);
            switch (Rows.at(sailorKind, c)) {
                case COOK: return nose;
                case HOMESICK: return Math.min(MOST_HOMESICK, nose + far);
                case NUMB: return far <= NUMB_REACH ? 2 * nose : 0;
                default: return Math.max(0, nose - far);
            }
        }

        int headingTo(int p, int strength) {
            if (strength == 0 || !hasPost(p)) {
                return NOWHERE;
            }
            int right = Rows.at(postX, p) - shipX;
            int down = Rows.at(postY, p) - shipY;
            if (Math.abs(right) >= Math.abs(down)) {
                return right > 0 ? RIGHT : LEFT;
            }
            return down > 0 ? DOWN : UP;
        }

        void addPull(int to, int force) {
            pullRight += Rows.at(STEP_X, to) * force;
            pullDown += Rows.at(STEP_Y, to) * force;
        }

        int goesTo() {
            pullRight = 0;
            pullDown = 0;
            addPull(windTo, windForce);
            for (int c = 0; c < sailors; c++) {
                int p = nearestPost(c);
                int strength = strengthTo(c, p);
                addPull(headingTo(p, strength), strength);
            }
            int across = Math.abs(pullRight);
            int along = Math.abs(pullDown);
            if (across <= heavy && along <= heavy) {
                return NOWHERE;
            }
            int to = pullDown > 0 ? DOWN : UP;
            if (across >= along) {
                to = pullRight > 0 ? RIGHT : LEFT;
            }
            return isCell(shipX + Rows.at(STEP_X, to), shipY + Rows.at(STEP_Y, to)) ? to : NOWHERE;
        }

        /** In how many of them it stays. */
        int goHours(int n) {
            int stayed = 0;
            for (int h = 0; h < n; h++) {
                int to = goesTo();
                stayed += to == NOWHERE ? 1 : 0;
                shipX += Rows.at(STEP_X, to);
                shipY += Rows.at(STEP_Y, to);
                hour++;
            }
            return stayed;
        }

        /** How many hours until it is in the cell; 0 if it is there in none of as many as that. */
        int hoursTo(int x, int y, int most) {
            int markX = shipX;
            int markY = shipY;
            for (int h = 1; h <= most; h++) {
                goHours(1);
                if (isShipAt(x, y)) {
                    return h;
                }
                // Nothing changes but where it is: once back where it was, it goes round for ever.
                if (isShipAt(markX, markY)) {
                    return 0;
                }
                if (Integer.bitCount(h) == 1) {
                    markX = shipX;
                    markY = shipY;
                }
            }
            return 0;
        }
    }

    private static final class Text {
        final int[] letters = new int[TEXT_ROOM];
        final int[] numbers = new int[ITEM_NUMBERS];
        int length;
        int place;

        boolean addLetter(int letter) {
            if (length >= letters.length) {
                return false;
            }
            Rows.set(letters, length, letter);
            length++;
            return true;
        }

        /** The place of the first item that is not so, behind which the field is told no more; NONE if all are so. */
        int readInto(Field field) {
            field.clear();
            place = 0;
            for (int items = 0; items < TEXT_ROOM && place < length; items++) {
                int start = place;
                if (!readItem(field)) {
                    return start;
                }
            }
            return NONE;
        }

        boolean readItem(Field field) {
            int letter = letterHere();
            int many = letter == 'w' ? 2 : 3;
            place++;
            for (int i = 0; i < many; i++) {
                int number = readNumber();
                if (number < 0 || letterHere() != (i < many - 1 ? ',' : ';')) {
                    return false;
                }
                Rows.set(numbers, i, number);
                place++;
            }
            int a = Rows.at(numbers, 0);
            int b = Rows.at(numbers, 1);
            int c = Rows.at(numbers, 2);
            switch (letter) {
                case 's': return tellShip(field, a, b, c);
                case 'w': return tellWind(field, a, b);
                case 'p': return tellPost(field, a, b, c);
                case 'c': return tellSailor(field, a, b, c);
                default: return false;
            }
        }

        int readNumber() {
            int number = NONE;
            for (int figures = 0; figures < 2 && within(letterHere(), '0', '9'); figures++) {
                number = Math.max(0, number) * 10 + letterHere() - '0';
                place++;
            }
            return number;
        }

        /** What a wiped text has left in the row is no letter of this one. */
        int letterHere() {
            return place < length ? Rows.at(letters, place) : 0;
        }

        static boolean tellShip(Field field, int x, int y, int heavy) {
            if (!isCell(x, y) || heavy > MOST_HEAVY) {
                return false;
            }
            field.moveShip(x, y);
            field.heavy = heavy;
            return true;
        }

        static boolean tellWind(Field field, int to, int force) {
            if (to > LEFT || force > MOST_FORCE) {
                return false;
            }
            field.windTo = to;
            field.windForce = force;
            return true;
        }

        static boolean tellPost(Field field, int x, int y, int s) {
            if (field.posts >= MOST_POSTS || !isCell(x, y) || s > LAST_SMELL) {
                return false;
            }
            field.addPost(x, y, s);
            return true;
        }

        static boolean tellSailor(Field field, int kind, int s, int nose) {
            if (field.sailors >= MOST_SAILORS || kind > NUMB || s > LAST_SMELL || !within(nose, 1, MOST_NOSE)) {
                return false;
            }
            field.addSailor(kind, s, nose);
            return true;
        }
    }

    private static final class Sightings {
        final int[] cellX = new int[SEEN_ROOM];
        final int[] cellY = new int[SEEN_ROOM];
        final int[] heading = new int[SEEN_ROOM];
        int many;

        boolean addSighting(int x, int y, int to) {
            if (many >= SEEN_ROOM) {
                return false;
            }
            Rows.set(cellX, many, x);
            Rows.set(cellY, many, y);
            Rows.set(heading, many, to);
            many++;
            return true;
        }

        /** Leaves the ship wherever the last of them was looked at. */
        boolean areSoIn(Field field) {
            for (int i = 0; i < many; i++) {
                field.moveShip(Rows.at(cellX, i), Rows.at(cellY, i));
                if (field.goesTo() != Rows.at(heading, i)) {
                    return false;
                }
            }
            return true;
        }
    }

    /** The latest fields, as many as it has room for; one more drops the oldest. */
    private static final class Pile {
        final Field[] fields;
        int many;
        int top;

        Pile(int room) {
            fields = new Field[Math.max(1, room)];
            for (int i = 0; i < fields.length; i++) {
                fields[i] = new Field();
            }
        }

        Field topField() {
            return top >= 0 && top < fields.length ? fields[top] : null;
        }

        void push(Field field) {
            top = top + 1 < fields.length ? top + 1 : 0;
            Field onTop = topField();
            if (onTop != null) {
                onTop.copyFrom(field);
                many = Math.min(many + 1, fields.length);
            }
        }

        boolean popInto(Field field) {
            Field onTop = topField();
            if (many == 0 || onTop == null) {
                return false;
            }
            field.copyFrom(onTop);
            top = top > 0 ? top - 1 : fields.length - 1;
            many--;
            return true;
        }
    }
}
