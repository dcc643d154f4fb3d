import java.math.BigInteger;
import java.util.ArrayDeque;
import java.util.ArrayList;
import java.util.Comparator;
import java.util.Deque;
import java.util.HashMap;
import java.util.List;
import java.util.Map;
import java.util.Optional;
import java.util.regex.Matcher;
import java.util.regex.Pattern;
import java.util.stream.IntStream;

/**
 * The document once more, told quite otherwise than in SmellMoorings: by values that never change, regular expressions
 * and streams. Where the two differ, one of them has misread the document.
 */
final class Model {
    static final int BAD = -1, NO = -2, FULL = -3, NONE = -4;

    record Cell(int x, int y) {
        int apart(Cell o) {
            return Math.abs(x - o.x) + Math.abs(y - o.y);
        }

        boolean onField() {
            return 0 <= x && x < 9 && 0 <= y && y < 9;
        }

        Cell to(int d) {
            return switch (d) {
                case 1 -> new Cell(x, y - 1);
                case 2 -> new Cell(x + 1, y);
                case 3 -> new Cell(x, y + 1);
                case 4 -> new Cell(x - 1, y);
                default -> this;
            };
        }
    }

    record Post(Cell at, int smell, boolean gone) { }

    record Sailor(int kind, int smell, int nose) { }

    record Drawn(int post, int force, int to) { }

    record Pull(int right, int down) {
        Pull and(int to, int force) {
            Cell step = new Cell(0, 0).to(to);
            return new Pull(right + step.x * force, down + step.y * force);
        }
    }

    record State(Cell ship, int heavy, int windTo, int force, int hour, List<Post> posts, List<Sailor> crew) {
        State ship(Cell c) {
            return new State(c, heavy, windTo, force, hour, posts, crew);
        }

        State wind(int d, int f) {
            return new State(ship, heavy, d, f, hour, posts, crew);
        }

        State post(int p, Post changed) {
            List<Post> all = new ArrayList<>(posts);
            if (p == all.size()) {
                all.add(changed);
            } else {
                all.set(p, changed);
            }
            return new State(ship, heavy, windTo, force, hour, all, crew);
        }

        State sailor(int c, Sailor changed) {
            List<Sailor> all = new ArrayList<>(crew);
            if (c == all.size()) {
                all.add(changed);
            } else {
                all.set(c, changed);
            }
            return new State(ship, heavy, windTo, force, hour, posts, all);
        }

        Drawn drawn(Sailor s) {
            Optional<Integer> nearest = IntStream.range(0, posts.size()).boxed()
                .filter(p -> !posts.get(p).gone && posts.get(p).smell == s.smell)
                .min(Comparator.comparing((Integer p) -> posts.get(p).at.apart(ship)).thenComparing(p -> p));
            if (nearest.isEmpty()) {
                return new Drawn(NONE, 0, 0);
            }
            Cell at = posts.get(nearest.get()).at;
            int far = at.apart(ship);
            int force = far == 0 ? 0 : switch (s.kind) {
                case 0 -> s.nose > far ? s.nose - far : 0;
                case 1 -> s.nose;
                case 2 -> s.nose + far > 12 ? 12 : s.nose + far;
                default -> far > 2 ? 0 : s.nose + s.nose;
            };
            boolean across = Math.abs(at.x - ship.x) * 2 >= far;
            int to = force == 0 ? 0 : across ? (at.x < ship.x ? 4 : 2) : (at.y < ship.y ? 1 : 3);
            return new Drawn(nearest.get(), force, to);
        }

        Pull pull() {
            Pull sum = new Pull(0, 0).and(windTo, force);
            for (Sailor s : crew) {
                Drawn d = drawn(s);
                sum = sum.and(d.to, d.force);
            }
            return sum;
        }

        int goes() {
            Pull p = pull();
            int most = Math.max(Math.abs(p.right), Math.abs(p.down));
            if (most <= heavy) {
                return 0;
            }
            int to = p.right == most ? 2 : p.right == -most ? 4 : p.down == most ? 3 : 1;
            return ship.to(to).onField() ? to : 0;
        }

        State goOn() {
            Cell c = ship.to(goes());
            return new State(c, heavy, windTo, force, hour + 1, posts, crew);
        }

        State hours(int n) {
            return n == 0 ? this : goOn().hours(n - 1);
        }

        int standing() {
            return IntStream.range(0, posts.size()).filter(p -> !posts.get(p).gone).map(p -> 1 << p).sum();
        }
    }

    record Sight(Cell at, int to) { }

    private static final Pattern ITEM = Pattern.compile(
        "s(0?[0-8]),(0?[0-8]),(0?\\d|1\\d|20);|w(0?[0-4]),(0?\\d|1\\d|20);|p(0?[0-8]),(0?[0-8]),(0?[0-5]);"
        + "|c(0?[0-3]),(0?[0-5]),(0?[1-9]);");

    private String text = "";
    private State now;
    private final List<Sight> sights = new ArrayList<>();
    private final Deque<State> undos = new ArrayDeque<>();
    private final Deque<State> kept = new ArrayDeque<>();

    Model() {
        now = read("s4,4,2;w2,1;p1,4,0;p7,2,1;p4,7,2;p8,8,0;c0,0,6;c1,1,3;c2,2,1;c3,0,5;c0,1,9;", new int[1]);
    }

    /** What is told; the place of the fault, or NONE, comes into fault[0]. */
    private static State read(String text, int[] fault) {
        State s = new State(new Cell(4, 4), 2, 0, 0, 0, List.of(), List.of());
        Matcher m = ITEM.matcher(text);
        int place = 0;
        fault[0] = NONE;
        while (place < text.length()) {
            m.region(place, text.length());
            char letter = text.charAt(place);
            if (!m.lookingAt() || letter == 'p' && s.posts.size() == 5 || letter == 'c' && s.crew.size() == 7) {
                fault[0] = place;
                return s;
            }
            int[] n = IntStream.rangeClosed(1, m.groupCount()).filter(g -> m.group(g) != null)
                .map(g -> Integer.parseInt(m.group(g))).toArray();
            s = switch (letter) {
                case 's' -> new State(new Cell(n[0], n[1]), n[2], s.windTo, s.force, 0, s.posts, s.crew);
                case 'w' -> s.wind(n[0], n[1]);
                case 'p' -> s.post(s.posts.size(), new Post(new Cell(n[0], n[1]), n[2], false));
                default -> s.sailor(s.crew.size(), new Sailor(n[0], n[1], n[2]));
            };
            place = m.end();
        }
        return s;
    }

    private void act(State next) {
        undos.push(now);
        if (undos.size() > 8) {
            undos.removeLast();
        }
        now = next;
    }

    private static boolean cell(int x, int y) {
        return new Cell(x, y).onField();
    }

    private boolean isPost(int p) {
        return 0 <= p && p < now.posts.size();
    }

    int write(int letter) {
        if (letter < 32 || letter > 126) {
            return BAD;
        }
        if (text.length() == 200) {
            return FULL;
        }
        text += (char) letter;
        return text.length();
    }

    int wipe() {
        int was = text.length();
        text = "";
        return was;
    }

    int fault() {
        int[] fault = new int[1];
        read(text, fault);
        return fault[0];
    }

    int lay() {
        int[] fault = new int[1];
        State s = read(text, fault);
        if (fault[0] != NONE || s.posts.isEmpty() || s.crew.isEmpty()) {
            return NO;
        }
        now = s;
        sights.clear();
        undos.clear();
        kept.clear();
        return s.crew.size();
    }

    int post(int p, int what) {
        if (!isPost(p) || what < 0 || what > 3) {
            return BAD;
        }
        Post post = now.posts.get(p);
        return List.of(post.at.x, post.at.y, post.smell, post.gone ? 1 : 0).get(what);
    }

    int crew(int c, int what) {
        if (c < 0 || c >= now.crew.size() || what < 0 || what > 5) {
            return BAD;
        }
        Sailor s = now.crew.get(c);
        Drawn d = now.drawn(s);
        return List.of(s.kind, s.smell, s.nose, d.post, d.force, d.to).get(what);
    }

    int pull(int what) {
        return what < 0 || what > 2 ? BAD
            : List.of(500 + now.pull().right, 500 + now.pull().down, now.goes()).get(what);
    }

    int pass(int n) {
        if (n < 1 || n > 20) {
            return BAD;
        }
        if (now.hour > 999 - n) {
            return NO;
        }
        State from = now;
        act(now.hours(n));
        return (int) IntStream.range(0, n).filter(h -> from.hours(h).goes() == 0).count();
    }

    int wind(int d, int f) {
        if (d < 0 || d > 4 || f < 0 || f > 20) {
            return BAD;
        }
        int was = now.force;
        act(now.wind(d, f));
        return was;
    }

    int put(int p, int x, int y) {
        if (!isPost(p) || !cell(x, y)) {
            return BAD;
        }
        Post post = now.posts.get(p);
        if (!post.gone && post.at.equals(new Cell(x, y))) {
            return NO;
        }
        act(now.post(p, new Post(new Cell(x, y), post.smell, false)));
        return post.gone ? 1 : 0;
    }

    int smell(int p, int s) {
        if (!isPost(p) || s < 0 || s > 5) {
            return BAD;
        }
        Post post = now.posts.get(p);
        if (post.gone || post.smell == s) {
            return NO;
        }
        act(now.post(p, new Post(post.at, s, false)));
        return post.smell;
    }

    int take(int p) {
        if (!isPost(p)) {
            return BAD;
        }
        Post post = now.posts.get(p);
        if (post.gone) {
            return NO;
        }
        act(now.post(p, new Post(post.at, post.smell, true)));
        return Integer.bitCount(now.standing());
    }

    int undo() {
        if (undos.isEmpty()) {
            return NO;
        }
        now = undos.pop();
        return undos.size();
    }

    int behind(int n, int what) {
        if (n < 0 || n > 40 || what < 0 || what > 1) {
            return BAD;
        }
        Cell c = now.hours(n).ship;
        return what == 0 ? c.x : c.y;
    }

    int stands() {
        return IntStream.rangeClosed(0, 40).filter(n -> now.hours(n).goes() == 0).findFirst().orElse(NONE);
    }

    int gale(int d) {
        if (d < 1 || d > 4) {
            return BAD;
        }
        return IntStream.rangeClosed(0, 20).filter(f -> now.wind(d, f).goes() == 0).max().orElse(NONE);
    }

    private static int name(int i) {
        return 100 * (i / 81) + 10 * (i / 9 % 9) + i % 9;
    }

    private State with(int i) {
        return now.post(now.posts.size(), new Post(new Cell(i % 9, i / 9 % 9), i / 81, false));
    }

    int hold() {
        if (now.goes() == 0) {
            return NONE;
        }
        return IntStream.range(0, 6 * 81).filter(i -> !new Cell(i % 9, i / 9 % 9).equals(now.ship))
            .filter(i -> with(i).goes() == 0).map(Model::name).findFirst().orElse(NONE);
    }

    int brings(int x, int y, int what) {
        if (!cell(x, y) || what < 0 || what > 1) {
            return BAD;
        }
        Cell goal = new Cell(x, y);
        if (goal.equals(now.ship)) {
            return NONE;
        }
        List<State> all = new ArrayList<>(IntStream.range(0, 6 * 81).mapToObj(this::with).toList());
        for (int h = 1; h <= 40; h++) {
            for (int i = 0; i < all.size(); i++) {
                all.set(i, all.get(i).goOn());
                if (all.get(i).ship.equals(goal)) {
                    return what == 0 ? name(i) : h;
                }
            }
        }
        return NONE;
    }

    int keeps(int what) {
        if (what < 0 || what > 1) {
            return BAD;
        }
        Cell goal = now.hours(10).ship;
        int set = IntStream.range(0, 1 << now.posts.size()).filter(b -> (b & now.standing()) == b)
            .filter(b -> only(b).hours(10).ship.equals(goal)).boxed()
            .min(Comparator.comparing((Integer b) -> Integer.bitCount(b)).thenComparing(b -> b)).orElseThrow();
        return what == 0 ? Integer.bitCount(set) : set;
    }

    private State only(int bits) {
        State s = now;
        for (int p = 0; p < now.posts.size(); p++) {
            Post post = now.posts.get(p);
            s = s.post(p, new Post(post.at, post.smell, (bits >> p & 1) == 0));
        }
        return s;
    }

    int instead() {
        return IntStream.range(0, 6 * now.posts.size()).filter(i -> {
            Post post = now.posts.get(i / 6);
            return !post.gone && post.smell != i % 6 && now.post(i / 6, new Post(post.at, i % 6, false)).goes() == 0;
        }).map(i -> i / 6 * 10 + i % 6).findFirst().orElse(NONE);
    }

    int seen(int x, int y, int d) {
        if (!cell(x, y) || d < 0 || d > 4) {
            return BAD;
        }
        if (sights.size() == 6) {
            return FULL;
        }
        sights.add(new Sight(new Cell(x, y), d));
        return sights.size();
    }

    int forget() {
        int were = sights.size();
        sights.clear();
        return were;
    }

    private boolean so(State s) {
        return sights.stream().allMatch(sight -> s.ship(sight.at).goes() == sight.to);
    }

    int may(int c, int what) {
        if (c < 0 || c >= now.crew.size() || what < 0 || what > 2) {
            return BAD;
        }
        Sailor s = now.crew.get(c);
        IntStream all = what == 0 ? IntStream.rangeClosed(1, 9) : what == 1 ? IntStream.range(0, 6) : IntStream.range(0, 4);
        return all.filter(v -> so(now.sailor(c, what == 0 ? new Sailor(s.kind, s.smell, v)
            : what == 1 ? new Sailor(s.kind, v, s.nose) : new Sailor(v, s.smell, s.nose)))).map(v -> 1 << v).sum();
    }

    int stowaway(int what) {
        if (what < 0 || what > 1) {
            return BAD;
        }
        int[] all = IntStream.range(0, 60).filter(i -> i % 10 > 0)
            .filter(i -> so(now.sailor(now.crew.size(), new Sailor(0, i / 10, i % 10)))).toArray();
        return what == 0 ? all.length : all.length == 0 ? NONE : all[0];
    }

    int likely(int n, int x, int part) {
        if (n < 0 || n > 7 || x < 0 || x > 10 || part < 0 || part > 1) {
            return BAD;
        }
        Map<Cell, BigInteger> chances = Map.of(now.ship, BigInteger.ONE);
        for (int h = 0; h < n; h++) {
            Map<Cell, BigInteger> next = new HashMap<>();
            chances.forEach((cell, weight) -> {
                State s = now.ship(cell);
                next.merge(s.wind(0, 0).goOn().ship, weight.multiply(BigInteger.valueOf(x)), BigInteger::add);
                next.merge(s.goOn().ship, weight.multiply(BigInteger.valueOf(10 - x)), BigInteger::add);
            });
            chances = next;
        }
        BigInteger above = chances.getOrDefault(now.ship, BigInteger.ZERO);
        BigInteger below = BigInteger.TEN.pow(n);
        return (part == 0 ? above : below).divide(above.gcd(below)).intValueExact();
    }

    int voyage(int z, int n, int what) {
        if (z < 0 || z > 9999 || n < 1 || n > 60 || what < 0 || what > 2) {
            return BAD;
        }
        State s = now;
        int stayed = 0;
        for (int h = 0; h < n; h++) {
            BigInteger x = BigInteger.valueOf(7919).multiply(BigInteger.valueOf(z))
                .add(BigInteger.valueOf(6151).multiply(BigInteger.valueOf(h))).add(BigInteger.ONE);
            int draw = x.pow(2).mod(BigInteger.valueOf(65521)).intValueExact() >> 1;
            if ((draw & 7) == 0) {
                s = s.wind((draw >> 3) % 5, (draw >> 6) % 10);
            } else if ((draw & 7) == 1) {
                int p = (draw >> 3) % s.posts.size();
                s = s.post(p, new Post(s.posts.get(p).at, (draw >> 6) % 6, s.posts.get(p).gone));
            }
            stayed += s.goes() == 0 ? 1 : 0;
            s = s.goOn();
        }
        return List.of(s.ship.x, s.ship.y, stayed).get(what);
    }

    int keep() {
        if (kept.size() == 2) {
            return FULL;
        }
        kept.push(now);
        return kept.size();
    }

    int back() {
        if (kept.isEmpty()) {
            return NO;
        }
        now = kept.pop();
        undos.clear();
        return kept.size();
    }

    int count(int what) {
        int gone = (int) now.posts.stream().filter(Post::gone).count();
        int[] all = {now.posts.size(), now.crew.size(), now.hour, now.ship.x, now.ship.y, now.heavy, now.windTo, now.force,
            gone, sights.size(), undos.size(), kept.size(), text.length()};
        return what < 0 || what >= all.length ? BAD : all[what];
    }
}
