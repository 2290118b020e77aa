import java.util.ArrayList;
import java.util.Arrays;
import java.util.Comparator;
import java.util.List;
import java.util.Optional;
import java.util.function.IntSupplier;
import java.util.regex.Matcher;
import java.util.regex.Pattern;
import java.util.stream.IntStream;

/**
 * The document once more, in the slowest and plainest way (it may use the whole library, and reckons everything anew
 * each time), so that random runs can be compared.
 */
public final class Oracle {
    private static final int BAD = -2, STATE = -3, FULL = -4;
    private static final long NO = -(1L << 62);

    private interface Meaning {
        int of(int depth, int asked, int loud, int topic, int round, int who);
    }

    private record Law(Meaning weight, Meaning points, Meaning hires) { }

    private record Asking(int topic, int depth) { }

    private static final class Fault extends RuntimeException {
        private static final long serialVersionUID = 1;
        private final int place;

        Fault(int place) {
            super("at " + place, null, false, false);
            this.place = place;
        }
    }

    private static final class Person {
        private int kind, more, told, at;
        private int[] deep = new int[4];

        Person copied() {
            Person other = new Person();
            other.kind = kind;
            other.more = more;
            other.told = told;
            other.at = at;
            other.deep = deep.clone();
            return other;
        }
    }

    private record Kept(List<Person> people, List<Asking> questions, int[] jokers, int law) { }

    private record Row(int sort, int[] numbers) { }

    private List<Person> people = new ArrayList<>();
    private List<Asking> questions = new ArrayList<>();
    private int[] jokers = {-1, -1, -1};
    private final List<Law> texts = new ArrayList<>();
    private int law = 0;
    private String tape = "";
    private Kept kept = null;
    private final Row[] rows = new Row[4];

    public Oracle() {
        texts.add(new Parser("weight loud * 2 + depth ; points 1 ; hires depth ;").law());
    }

    // ---- the law

    public int count(int what) {
        int[] all = {people.size(), questions.size(), texts.size(), law, tape.length()};
        return in(what, 0, 4) ? all[what] : BAD;
    }

    public int feed(int n, int a, int b, int c, int d, int e) {
        int[] five = {a, b, c, d, e};
        if (!in(n, 1, 5) || Arrays.stream(five).anyMatch(x -> !in(x, 0, 255))) return BAD;
        if (tape.length() + n > 160) return FULL;
        for (int i = 0; i < n; i++) tape += (char) five[i];
        return tape.length();
    }

    public int text() {
        if (texts.size() == 6) return FULL;
        String read = tape;
        tape = "";
        try {
            texts.add(new Parser(read).law());
        } catch (Fault fault) {
            return -100 - fault.place;
        }
        return texts.size() - 1;
    }

    public int force(int t) {
        if (!in(t, 0, texts.size() - 1)) return BAD;
        int was = law;
        law = t;
        return was;
    }

    public int asks(int part, int depthAsked, int loud, int topicRound, int who) {
        if (!in(part, 0, 2) || !in(depthAsked, 0, 99) || !in(loud, 0, 99) || !in(topicRound, 0, 39)) return BAD;
        if (!in(who, 0, 6)) return BAD;
        Law l = texts.get(law);
        Meaning asked = List.of(l.weight, l.points, l.hires).get(part);
        int said = asked.of(depthAsked / 10, depthAsked % 10, loud, topicRound / 10, topicRound % 10, who);
        return part == 0 ? bound(said, -999, 999) : bound(said, 0, 99);
    }

    // ---- people

    public int come(int kindMore, int loud, int at) {
        if (!in(kindMore, 0, 59) || !in(loud, 0, 20) || !in(at, -1, 2)) return BAD;
        if (people.size() == 7) return FULL;
        Person one = new Person();
        one.kind = kindMore / 10;
        one.more = kindMore % 10;
        one.told = loud;
        one.at = at;
        people.add(one);
        return people.size() - 1;
    }

    public int learn(int p, int topic, int v) {
        if (!isPerson(p)) return -5;
        if (!in(topic, 0, 3) || !in(v, 0, 9)) return -7;
        int was = people.get(p).deep[topic];
        people.get(p).deep[topic] = v;
        return was;
    }

    public int sit(int p, int t) {
        if (!isPerson(p)) return -5;
        if (!in(t, -1, 2)) return -7;
        int was = people.get(p).at;
        people.get(p).at = t;
        return was;
    }

    public int told(int p, int what) {
        if (!isPerson(p)) return -5;
        if (!in(what, 0, 7)) return -7;
        Person one = people.get(p);
        int[] d = one.deep;
        return new int[] {d[0], d[1], d[2], d[3], one.at, one.kind, one.told, one.more}[what];
    }

    // ---- questions, jokers

    public int question(int topic, int depth) {
        if (!in(topic, 0, 3) || !in(depth, 0, 9)) return BAD;
        if (questions.size() == 8) return FULL;
        questions.add(new Asking(topic, depth));
        return questions.size() - 1;
    }

    public int askedOf(int q, int what) {
        if (!isQuestion(q)) return -5;
        if (!in(what, 0, 1)) return -7;
        return what == 0 ? questions.get(q).topic : questions.get(q).depth;
    }

    public int lay(int t, int q) {
        if (!in(t, 0, 2)) return -5;
        if (!in(q, -1, questions.size() - 1)) return -7;
        int was = jokers[t];
        jokers[t] = q;
        return was;
    }

    public int laid(int t) {
        return in(t, 0, 2) ? jokers[t] : -5;
    }

    // ---- answers

    public int answer(int t, int q, int what) {
        if (!in(t, 0, 2) || !isQuestion(q)) return -5;
        if (!in(what, 0, 2)) return -7;
        if (what == 0) return believed(t, q);
        return what == 1 ? (right(t, q) ? 1 : 0) : whoKnows(t, q);
    }

    public int score(int t, int what) {
        if (!in(t, 0, 2)) return -5;
        if (!in(what, 0, 2)) return -7;
        if (what == 0) return scoreOf(t);
        int rights = bits(questions.size(), q -> right(t, q));
        return what == 1 ? rights : bits(questions.size(), q -> !right(t, q) && whoKnows(t, q) != 0);
    }

    public int evening(int what) {
        if (!in(what, 0, 1)) return BAD;
        return what == 0 ? winner() : apart();
    }

    public int best(int t, int what) {
        if (!in(t, 0, 2)) return -5;
        if (!in(what, 0, 1)) return -7;
        int was = jokers[t];
        jokers[t] = -1;
        int found = -1;
        int most = scoreOf(t);
        for (int q = 0; q < questions.size(); q++) {
            jokers[t] = q;
            if (scoreOf(t) > most) {
                most = scoreOf(t);
                found = q;
            }
        }
        jokers[t] = was;
        return what == 0 ? found : most;
    }

    // ---- whom to ask

    public int join(int t, int what) {
        if (!in(t, 0, 2)) return -5;
        if (!in(what, 0, 1)) return -7;
        int now = scoreOf(t);
        Optional<Person> found = people.stream().filter(o -> o.at != t && ifAt(o, t, () -> scoreOf(t)) > now)
            .max(Comparator.comparingInt((Person o) -> ifAt(o, t, () -> scoreOf(t)))
                .thenComparingInt(o -> -people.indexOf(o)));
        if (what == 0) return found.map(people::indexOf).orElse(-1);
        return found.map(o -> ifAt(o, t, () -> scoreOf(t))).orElse(now);
    }

    public int leave(int t, int what) {
        if (!in(t, 0, 2)) return -5;
        if (!in(what, 0, 1)) return -7;
        int now = scoreOf(t);
        return bits(people.size(), p -> {
            if (people.get(p).at != t) return false;
            int then = ifAt(people.get(p), -1, () -> scoreOf(t));
            return what == 0 ? then > now : then >= now;
        });
    }

    public int cover(int what) {
        if (!in(what, 0, 1)) return BAD;
        int size = questions.size();
        int needed = bits(size, q -> IntStream.range(0, people.size()).anyMatch(p -> enough(p, q)));
        for (int many = 0; many <= 7; many++) {
            for (int set = 0; set < 128; set++) {
                int chosen = set;
                if (Integer.bitCount(set) != many || set >> people.size() != 0) continue;
                int has = bits(size, q -> IntStream.range(0, people.size())
                    .anyMatch(p -> (chosen >> p & 1) == 1 && enough(p, q)));
                if (has == needed) return what == 0 ? many : set;
            }
        }
        throw new IllegalStateException("everybody covers all");
    }

    public int hire(int t, int coin, int what) {
        if (!in(t, 0, 2)) return -5;
        if (!in(coin, 0, 999) || !in(what, 0, 1)) return -7;
        int now = scoreOf(t);
        List<Integer> order = new ArrayList<>();
        for (int p = 0; p < people.size(); p++) {
            Person one = people.get(p);
            if (one.at == -1 && price(p) <= coin && ifAt(one, t, () -> scoreOf(t)) > now) order.add(p);
        }
        order.sort(Comparator.comparingInt((Integer p) -> -ifAt(people.get(p), t, () -> scoreOf(t)))
            .thenComparingInt(this::price).thenComparingInt(p -> p));
        if (order.isEmpty()) return -1;
        return what == 0 ? order.get(0) : price(order.get(0));
    }

    public int price(int p) {
        if (!isPerson(p)) return -5;
        Person one = people.get(p);
        int deepest = Arrays.stream(one.deep).max().getAsInt();
        int topic = IntStream.range(0, 4).filter(t -> one.deep[t] == deepest).findFirst().getAsInt();
        return bound(texts.get(law).hires.of(deepest, 0, one.told, topic, 0, p), 0, 99);
    }

    // ---- close, good, alike

    public int close(int many, int what) {
        if (!in(many, 0, 8) || !in(what, 0, 1)) return BAD;
        int found = -1;
        int least = -1;
        for (int set = 0; set < 256; set++) {
            if (Integer.bitCount(set) != many || set >> questions.size() != 0) continue;
            int[] scores = new int[3];
            for (int t = 0; t < 3; t++) {
                for (int q = 0; q < 8; q++) {
                    if ((set >> q & 1) == 1) scores[t] += pointsOf(t, q);
                }
            }
            Arrays.sort(scores);
            if (found == -1 || scores[2] - scores[0] < least) {
                found = set;
                least = scores[2] - scores[0];
            }
        }
        return what == 0 ? found : least;
    }

    public int good(int q) {
        if (!isQuestion(q)) return -100000;
        int sum = 0;
        for (int[] pair : new int[][] {{0, 1}, {0, 2}, {1, 2}}) {
            if (right(pair[0], q) == right(pair[1], q)) continue;
            int has = right(pair[0], q) ? pair[0] : pair[1];
            int hasNot = pair[0] + pair[1] - has;
            int less = scoreOf(has) - pointsOf(has, q);
            if (less > scoreOf(hasNot)) sum++;
            if (less < scoreOf(hasNot)) sum--;
        }
        return sum;
    }

    public long alike(int a, int b, int part) {
        if (!in(a, 0, 2) || !in(b, 0, 2) || a == b || !in(part, 0, 1)) return NO;
        int any = 0;
        int both = 0;
        for (int q = 0; q < questions.size(); q++) {
            if (!right(a, q) || !right(b, q)) any++;
            if (!right(a, q) && !right(b, q)) both++;
        }
        return any == 0 ? NO : lowest(both, any, part);
    }

    public int change(int what) {
        if (!in(what, 0, 1)) return BAD;
        int least = apart();
        int found = -1;
        for (int i = 0; i < people.size(); i++) {
            for (int j = i + 1; j < people.size(); j++) {
                Person one = people.get(i);
                Person other = people.get(j);
                if (one.at == other.at) continue;
                int otherAt = other.at;
                int far = ifAt(other, one.at, () -> ifAt(one, otherAt, this::apart));
                if (far < least) {
                    least = far;
                    found = 10 * i + j;
                }
            }
        }
        return what == 0 ? found : least;
    }

    // ---- told sheets

    public int judge(int s, int t) {
        if (toldRefusal(s) != 0) return toldRefusal(s);
        return in(t, 0, 2) ? unlike(s, t) : -5;
    }

    public int whose(int s) {
        if (toldRefusal(s) != 0) return toldRefusal(s);
        return bits(3, t -> unlike(s, t) == -1);
    }

    public int depth(int s, int p, int topic) {
        if (toldRefusal(s) != 0) return toldRefusal(s);
        if (!isPerson(p) || people.get(p).at == -1) return -5;
        if (!in(topic, 0, 3)) return -7;
        Person one = people.get(p);
        int was = one.deep[topic];
        int found = bits(10, v -> {
            one.deep[topic] = v;
            return unlike(s, one.at) == -1;
        });
        one.deep[topic] = was;
        return found;
    }

    public int laws(int s, int t) {
        if (toldRefusal(s) != 0) return toldRefusal(s);
        if (!in(t, 0, 2)) return -5;
        int was = law;
        int found = bits(texts.size(), n -> {
            law = n;
            return unlike(s, t) == -1;
        });
        law = was;
        return found;
    }

    public int film(int s, int t) {
        if (!in(s, 0, 3)) return BAD;
        if (!in(t, 0, 2)) return -5;
        rows[s] = new Row(2, IntStream.range(0, questions.size()).map(q -> right(t, q) ? 1 : 0).toArray());
        return questions.size();
    }

    // ---- evenings by lot

    public int drawn(int seed) {
        return in(seed, 0, 99999) ? drawnWinner(seed) : BAD;
    }

    public long odds(int seed, int seeds, int t, int part) {
        if (!in(seed, 0, 99999) || !in(seeds, 1, 30) || !in(t, 0, 2) || !in(part, 0, 1)) return NO;
        int won = (int) IntStream.range(seed, seed + seeds).filter(s -> drawnWinner(s) == t).count();
        return lowest(won, seeds, part);
    }

    public int image() {
        kept = new Kept(people.stream().map(Person::copied).toList(), List.copyOf(questions), jokers.clone(), law);
        return people.size();
    }

    public int back() {
        if (kept == null) return STATE;
        people = new ArrayList<>(kept.people.stream().map(Person::copied).toList());
        questions = new ArrayList<>(kept.questions);
        jokers = kept.jokers.clone();
        law = kept.law;
        return people.size();
    }

    // ---- the host

    public int sheet(int s, int sort, int n) {
        if (!in(s, 0, 3) || !in(sort, -1, 2) || sort != -1 && n > 40) return BAD;
        if (sort != -1 && n < 0) return -14;
        rows[s] = sort == -1 ? null : new Row(sort, new int[n]);
        return 1;
    }

    public int cell(int s, int i, int v) {
        if (!in(s, 0, 3)) return BAD;
        if (rows[s] == null) return -11;
        if (!in(i, 0, rows[s].numbers.length - 1)) return -12;
        rows[s].numbers[i] = List.of((int) (byte) v, (int) (short) v, v).get(rows[s].sort);
        return 1;
    }

    public int copy(int s, int i, int other, int j, int n) {
        if (!in(s, 0, 3) || !in(other, 0, 3)) return BAD;
        if (rows[s] == null || rows[other] == null) return -11;
        if (rows[s].sort != rows[other].sort) return -13;
        int[] before = rows[s].numbers.clone();
        if (n < 0 || i < 0 || j < 0) return -12;
        if ((long) i + n > before.length || (long) j + n > rows[other].numbers.length) return -12;
        for (int k = 0; k < n; k++) rows[other].numbers[j + k] = before[i + k];
        return n;
    }

    public int depthsBy(int s, int sort, int at, int n) {
        if (!in(s, 0, 3) || !in(sort, 0, 2) || !in(n, 0, 12)) return BAD;
        if (rows[s] == null) return -11;
        if (rows[s].sort != sort) return -13;
        int became = 0;
        for (int k = 0; k < n; k++) {
            int[] three = new int[3];
            for (int m = 0; m < 3; m++) {
                long place = (long) at + 3 * k + m;
                if (place < 0 || place >= rows[s].numbers.length) return -12;
                three[m] = rows[s].numbers[(int) place];
            }
            if (learn(three[0], three[1], three[2]) >= 0) became++;
        }
        return became;
    }

    public int taken(int i, int kind) {
        if (!in(kind, 0, 6)) return BAD;
        if (!in(i, 0, 14)) return -12;
        if (i < 8) {
            if (!isQuestion(i)) return -11;
            return kind == 6 ? questions.get(i).depth : -13;
        }
        if (!isPerson(i - 8)) return -11;
        List<List<Integer>> areAlso = List.of(List.of(0), List.of(1, 0), List.of(2, 0), List.of(3, 1, 0),
            List.of(4, 2, 0), List.of(5, 0));
        return areAlso.get(people.get(i - 8).kind).contains(kind) ? i - 8 : -13;
    }

    // ---- terms

    private interface Test {
        boolean of(int n);
    }

    private static boolean in(int value, int least, int most) {
        return value >= least && value <= most;
    }

    private static int bound(int value, int least, int most) {
        return value < least ? least : value > most ? most : value;
    }

    private static int bits(int size, Test test) {
        int found = 0;
        for (int i = 0; i < size; i++) {
            if (test.of(i)) found += 1 << i;
        }
        return found;
    }

    private static long lowest(int above, int below, int part) {
        for (int by = below; by > 1; by--) {
            if (above % by == 0 && below % by == 0) {
                above /= by;
                below /= by;
            }
        }
        return part == 0 ? above : below;
    }

    private boolean isPerson(int p) {
        return in(p, 0, people.size() - 1);
    }

    private boolean isQuestion(int q) {
        return in(q, 0, questions.size() - 1);
    }

    private static int ifAt(Person one, int at, IntSupplier then) {
        int was = one.at;
        one.at = at;
        int answer = then.getAsInt();
        one.at = was;
        return answer;
    }

    private static int unboundKnows(int kind, Person one, int topic, int r) {
        int d = one.deep[topic];
        switch (kind) {
            case 0: return d;
            case 1: return unboundKnows(0, one, topic, r) + (topic == one.more % 4 ? 3 : 0);
            case 2: return unboundKnows(0, one, topic, r);
            case 3: return unboundKnows(1, one, topic, r) - r / 3;
            case 4: return unboundKnows(2, one, topic, r) + 2;
            default: return r >= one.more ? 9 : unboundKnows(0, one, topic, r);
        }
    }

    private static int loud(int kind, Person one, int topic) {
        switch (kind) {
            case 2: return loud(0, one, topic) / 3;
            case 3: return loud(1, one, topic) * 2 + 5;
            case 4: return topic == one.more % 4 ? loud(2, one, topic) : 0;
            default: return one.told;
        }
    }

    private int knows(int p, int q) {
        Person one = people.get(p);
        return bound(unboundKnows(one.kind, one, questions.get(q).topic, q), 0, 9);
    }

    private boolean enough(int p, int q) {
        return knows(p, q) >= questions.get(q).depth;
    }

    private int weight(int p, int q) {
        Person one = people.get(p);
        int topic = questions.get(q).topic;
        int said = texts.get(law).weight.of(knows(p, q), questions.get(q).depth, loud(one.kind, one, topic), topic, q, p);
        return bound(said, -999, 999);
    }

    private int believed(int t, int q) {
        return IntStream.range(0, people.size()).filter(p -> people.get(p).at == t).boxed()
            .min(Comparator.comparingInt((Integer p) -> -weight(p, q)).thenComparingInt(p -> p)).orElse(-1);
    }

    private boolean right(int t, int q) {
        int speaker = believed(t, q);
        return speaker != -1 && enough(speaker, q);
    }

    private int whoKnows(int t, int q) {
        return bits(people.size(), p -> people.get(p).at == t && enough(p, q));
    }

    private int pointsOf(int t, int q) {
        if (!right(t, q)) return 0;
        Asking asking = questions.get(q);
        int points = bound(texts.get(law).points.of(0, asking.depth, 0, asking.topic, q, 0), 0, 99);
        return jokers[t] == q ? 2 * points : points;
    }

    private int scoreOf(int t) {
        return IntStream.range(0, questions.size()).map(q -> pointsOf(t, q)).sum();
    }

    private int[] scores() {
        return new int[] {scoreOf(0), scoreOf(1), scoreOf(2)};
    }

    private int winner() {
        int[] scores = scores();
        int most = Arrays.stream(scores).max().getAsInt();
        return scores[0] == most ? 0 : scores[1] == most ? 1 : 2;
    }

    private int apart() {
        int[] scores = scores();
        return Arrays.stream(scores).max().getAsInt() - Arrays.stream(scores).min().getAsInt();
    }

    private int drawnWinner(int seed) {
        List<Person> real = people;
        people = new ArrayList<>(real.stream().map(Person::copied).toList());
        long lot = seed + 1;
        for (Person one : people) {
            for (int topic = 0; topic < 4; topic++) {
                lot = lot * 48271 % 2147483647;
                one.deep[topic] = bound(one.deep[topic] + (int) (lot % 3) - 1, 0, 9);
            }
        }
        int found = winner();
        people = real;
        return found;
    }

    private int toldRefusal(int s) {
        if (!in(s, 0, 3)) return BAD;
        if (rows[s] == null) return -11;
        return rows[s].numbers.length == questions.size() ? 0 : BAD;
    }

    private int unlike(int s, int t) {
        for (int q = 0; q < questions.size(); q++) {
            if (rows[s].numbers[q] != (right(t, q) ? 1 : 0)) return q;
        }
        return -1;
    }

    /** Reads a text: the tokens by a pattern, then each level of E by one method for all signs between equals. */
    private static final class Parser {
        private static final Pattern TOKEN = Pattern.compile("[a-z]+|[0-9]+|[();+*<=-]");
        private static final List<String> NAMES = List.of("depth", "asked", "loud", "topic", "round", "who");

        private final String text;
        private int at = 0;

        Parser(String text) {
            this.text = text;
        }

        Law law() {
            Law law = new Law(part("weight"), part("points"), part("hires"));
            skip();
            if (at < text.length()) throw new Fault(at);
            return law;
        }

        private Meaning part(String key) {
            want(key);
            Meaning meaning = level(0, 0);
            want(";");
            return meaning;
        }

        private void skip() {
            while (at < text.length() && (text.charAt(at) == ' ' || text.charAt(at) == '\n')) at++;
        }

        /** The next token, which stays; a text that is none, where nothing that can be told stands. */
        private String peek() {
            skip();
            Matcher matcher = TOKEN.matcher(text).region(at, text.length());
            return matcher.lookingAt() ? matcher.group() : "";
        }

        private void want(String token) {
            if (!peek().equals(token)) throw new Fault(at);
            at += token.length();
        }

        private boolean took(String token) {
            if (!peek().equals(token)) return false;
            at += token.length();
            return true;
        }

        private static final List<List<String>> SIGNS = List.of(List.of("or"), List.of("and"), List.of("<", "="),
            List.of("+", "-"), List.of("*"));

        private Meaning level(int level, int open) {
            if (level == 5) return one(open);
            if (level == 2 && peek().equals("not")) {
                if (open == 5) throw new Fault(at);
                want("not");
                Meaning inner = level(2, open + 1);
                return (d, a, l, t, r, w) -> inner.of(d, a, l, t, r, w) == 0 ? 1 : 0;
            }
            Meaning left = level(level + 1, open);
            while (SIGNS.get(level).contains(peek())) {
                String sign = peek();
                want(sign);
                left = between(sign, left, level(level + 1, open));
                if (level == 2) break;
            }
            return left;
        }

        private static Meaning between(String sign, Meaning x, Meaning y) {
            return (d, a, l, t, r, w) -> {
                int p = x.of(d, a, l, t, r, w);
                int q = y.of(d, a, l, t, r, w);
                switch (sign) {
                    case "or": return p != 0 || q != 0 ? 1 : 0;
                    case "and": return p != 0 && q != 0 ? 1 : 0;
                    case "<": return p < q ? 1 : 0;
                    case "=": return p == q ? 1 : 0;
                    case "+": return p + q;
                    case "-": return p - q;
                    default: return p * q;
                }
            };
        }

        private Meaning one(int open) {
            String token = peek();
            if (NAMES.contains(token)) {
                want(token);
                int n = NAMES.indexOf(token);
                return (d, a, l, t, r, w) -> new int[] {d, a, l, t, r, w}[n];
            }
            if (token.matches("[0-9]{1,4}")) {
                want(token);
                int value = Integer.parseInt(token);
                return (d, a, l, t, r, w) -> value;
            }
            if (open == 5 || !token.equals("-") && !token.equals("(")) throw new Fault(at);
            if (took("-")) {
                Meaning inner = one(open + 1);
                return (d, a, l, t, r, w) -> -inner.of(d, a, l, t, r, w);
            }
            want("(");
            Meaning inner = level(0, open + 1);
            want(")");
            return inner;
        }
    }
}
