import java.util.Arrays;

/** Questions in an inn: see ../shared/DOC.md for the words in capitals and for the numbered promises. */
public final class QuestionsInAnInn {
    public static final int NONE = -1, BAD = -2, STATE = -3, FULL = -4;
    public static final long NO = -4611686018427387904L;

    private static final int TOPICS = 4, TABLES = 3, PEOPLE = 7, QUESTIONS = 8, TEXTS = 6, SHEETS = 4;
    private static final int DEEPEST = 9, LOUDEST = 20, KINDS = 6;
    private static final int ALL_QUESTIONS = 255;

    private static final int NO_SUCH = -5, NOT_TOLD = -7;
    private static final int NOTHING = -11, OUTSIDE = -12, OTHER_SORT = -13, BELOW = -14;
    private static final int FAULT = -100, NO_QUESTION = -100000;

    private static final int SEEDS = 100000, MOST_SEEDS = 30, MOST_COIN = 999, MOST_TRIPLES = 12;
    private static final long LOT_FACTOR = 48271, LOT_MODULUS = 2147483647;

    private static final int WEIGHT = 0, POINTS = 1, HIRES = 2;
    private static final String FIRST_TEXT = "weight loud * 2 + depth ; points 1 ; hires depth ;";

    private final Guest[] people = new Guest[PEOPLE];
    private final int[] topics = new int[QUESTIONS];
    private final int[] asked = new int[QUESTIONS];
    private final int[] jokers = {NONE, NONE, NONE};
    private final Text[] texts = new Text[TEXTS];
    private final Tape tape = new Tape();
    private final Sheet[] sheets = {new Sheet(), new Sheet(), new Sheet(), new Sheet()};
    private final Image kept = new Image();
    private final Answers answers = new Answers();
    private final int[] rights = new int[TABLES];
    private final int[] deepBefore = new int[PEOPLE * TOPICS];
    private final int[] names = new int[Text.NAMES];
    private int peopleCount;
    private int questionCount;
    private int textCount;
    private int law;

    public QuestionsInAnInn() {
        tape.write(FIRST_TEXT);
        texts[0] = tape.read();
        tape.clear();
        textCount = 1;
    }

    // ---- the law

    public int count(int what) {
        switch (what) {
            case 0: return peopleCount;
            case 1: return questionCount;
            case 2: return textCount;
            case 3: return law;
            case 4: return tape.size;
            default: return BAD;
        }
    }

    public int feed(int n, int a, int b, int c, int d, int e) {
        if (n < 1 || n > 5) return BAD;
        if (!isByte(a) || !isByte(b) || !isByte(c) || !isByte(d) || !isByte(e)) return BAD;
        if (n > Tape.ROOM - tape.size) return FULL;
        tape.put(a);
        if (n > 1) tape.put(b);
        if (n > 2) tape.put(c);
        if (n > 3) tape.put(d);
        if (n > 4) tape.put(e);
        return tape.size;
    }

    public int text() {
        if (textCount >= TEXTS) return FULL;
        Text read = tape.read();
        int place = tape.place;
        tape.clear();
        if (read == null) return FAULT - place;
        texts[textCount] = read;
        textCount++;
        return textCount - 1;
    }

    public int force(int t) {
        if (t < 0 || t >= textCount) return BAD;
        int was = law;
        law = t;
        return was;
    }

    public int asks(int part, int depthAsked, int loud, int topicRound, int who) {
        if (part < 0 || part > 2 || depthAsked < 0 || depthAsked > 99 || loud < 0 || loud > 99) return BAD;
        if (topicRound < 0 || topicRound > 39 || who < 0 || who >= PEOPLE) return BAD;
        Text said = lawText();
        if (said == null) return BAD;
        name(names, depthAsked / 10, depthAsked % 10, loud);
        nameMore(names, topicRound / 10, topicRound % 10, who);
        return said.says(part, names);
    }

    // ---- people

    public int come(int kindMore, int loud, int at) {
        if (kindMore < 0 || kindMore >= 10 * KINDS || loud < 0 || loud > LOUDEST) return BAD;
        if (!isTableOrNone(at)) return BAD;
        if (peopleCount >= PEOPLE) return FULL;
        people[peopleCount] = new Guest(kindMore / 10, kindMore % 10, loud, at);
        peopleCount++;
        return peopleCount - 1;
    }

    public int learn(int p, int topic, int v) {
        Guest one = personAt(p);
        if (one == null) return NO_SUCH;
        if (!isTopic(topic) || v < 0 || v > DEEPEST) return NOT_TOLD;
        int was = one.deepAt(topic);
        one.becomeDeep(topic, v);
        return was;
    }

    public int sit(int p, int t) {
        Guest one = personAt(p);
        if (one == null) return NO_SUCH;
        if (!isTableOrNone(t)) return NOT_TOLD;
        int was = one.seat;
        one.seat = t;
        return was;
    }

    public int told(int p, int what) {
        Guest one = personAt(p);
        if (one == null) return NO_SUCH;
        if (isTopic(what)) return one.deepAt(what);
        switch (what) {
            case 4: return one.seat;
            case 5: return one.kind;
            case 6: return one.told;
            case 7: return one.more;
            default: return NOT_TOLD;
        }
    }

    // ---- questions, jokers

    public int question(int topic, int depth) {
        if (!isTopic(topic) || depth < 0 || depth > DEEPEST) return BAD;
        if (questionCount >= QUESTIONS) return FULL;
        topics[questionCount] = topic;
        asked[questionCount] = depth;
        questionCount++;
        return questionCount - 1;
    }

    public int askedOf(int q, int what) {
        if (!isQuestion(q)) return NO_SUCH;
        if (!isZeroOrOne(what)) return NOT_TOLD;
        return what == 0 ? topics[q] : asked[q];
    }

    public int lay(int t, int q) {
        if (!isTable(t)) return NO_SUCH;
        if (q != NONE && !isQuestion(q)) return NOT_TOLD;
        int was = jokers[t];
        jokers[t] = q;
        return was;
    }

    public int laid(int t) {
        return isTable(t) ? jokers[t] : NO_SUCH;
    }

    // ---- answers

    public int answer(int t, int q, int what) {
        if (!isTable(t) || !isQuestion(q)) return NO_SUCH;
        if (what < 0 || what > 2) return NOT_TOLD;
        reckon();
        int there = seatedAt(t);
        switch (what) {
            case 0: return answers.believed(there, q);
            case 1: return rights[t] >> q & 1;
            default: return answers.ableOf(there, q);
        }
    }

    public int score(int t, int what) {
        if (!isTable(t)) return NO_SUCH;
        if (what < 0 || what > 2) return NOT_TOLD;
        reckon();
        switch (what) {
            case 0: return scoreNow(t);
            case 1: return rights[t];
            default: return answers.coveredBy(seatedAt(t)) & ~rights[t];
        }
    }

    public int evening(int what) {
        if (!isZeroOrOne(what)) return BAD;
        reckon();
        return what == 0 ? winner() : apartBy(ALL_QUESTIONS);
    }

    public int best(int t, int what) {
        if (!isTable(t)) return NO_SUCH;
        if (!isZeroOrOne(what)) return NOT_TOLD;
        reckon();
        int found = NONE;
        int highest = answers.worth(rights[t], NONE);
        for (int q = 0; q < questionCount; q++) {
            int then = answers.worth(rights[t], q);
            if (then > highest) {
                highest = then;
                found = q;
            }
        }
        return what == 0 ? found : highest;
    }

    // ---- whom to ask

    public int join(int t, int what) {
        if (!isTable(t)) return NO_SUCH;
        if (!isZeroOrOne(what)) return NOT_TOLD;
        reckon();
        int there = seatedAt(t);
        int found = NONE;
        int highest = scoreNow(t);
        for (int p = 0; p < peopleCount; p++) {
            // Who sits there already changes nothing by it, so is never the one.
            int then = scoreIf(t, there | 1 << p);
            if (then > highest) {
                highest = then;
                found = p;
            }
        }
        return what == 0 ? found : highest;
    }

    public int leave(int t, int what) {
        if (!isTable(t)) return NO_SUCH;
        if (!isZeroOrOne(what)) return NOT_TOLD;
        reckon();
        int there = seatedAt(t);
        int least = what == 0 ? scoreNow(t) + 1 : scoreNow(t);
        int found = 0;
        for (int p = 0; p < peopleCount; p++) {
            boolean sitsThere = (there >> p & 1) == 1;
            if (sitsThere && scoreIf(t, there & ~(1 << p)) >= least) found |= 1 << p;
        }
        return found;
    }

    public int cover(int what) {
        if (!isZeroOrOne(what)) return BAD;
        reckon();
        int everybody = (1 << peopleCount) - 1;
        int needed = answers.coveredBy(everybody);
        int found = everybody;
        for (int set = 0; set < everybody; set++) {
            boolean fewer = Integer.bitCount(set) < Integer.bitCount(found);
            if (fewer && answers.coveredBy(set) == needed) found = set;
        }
        return what == 0 ? Integer.bitCount(found) : found;
    }

    public int hire(int t, int coin, int what) {
        if (!isTable(t)) return NO_SUCH;
        if (coin < 0 || coin > MOST_COIN || !isZeroOrOne(what)) return NOT_TOLD;
        reckon();
        int there = seatedAt(t);
        int found = NONE;
        int cost = NONE;
        int highest = scoreNow(t);
        for (int p = 0; p < peopleCount; p++) {
            Guest one = personAt(p);
            if (one == null || one.seat != NONE) continue;
            int costs = costOf(p, one);
            if (costs > coin) continue;
            int then = scoreIf(t, there | 1 << p);
            boolean cheaper = found != NONE && then == highest && costs < cost;
            if (then > highest || cheaper) {
                highest = then;
                found = p;
                cost = costs;
            }
        }
        return what == 0 ? found : cost;
    }

    public int price(int p) {
        Guest one = personAt(p);
        return one == null ? NO_SUCH : costOf(p, one);
    }

    // ---- close, good, alike

    public int close(int many, int what) {
        if (many < 0 || many > QUESTIONS || !isZeroOrOne(what)) return BAD;
        if (many > questionCount) return NONE;
        reckon();
        int found = NONE;
        int least = NONE;
        for (int set = 0; set < 1 << questionCount; set++) {
            if (Integer.bitCount(set) != many) continue;
            int far = apartBy(set);
            if (found == NONE || far < least) {
                found = set;
                least = far;
            }
        }
        return what == 0 ? found : least;
    }

    public int good(int q) {
        if (!isQuestion(q)) return NO_QUESTION;
        reckon();
        int sum = 0;
        for (int t = 0; t < TABLES; t++) {
            if ((rights[t] >> q & 1) == 0) continue;
            int without = answers.worth(rights[t] & ~(1 << q), jokers[t]);
            for (int other = 0; other < TABLES; other++) {
                if ((rights[other] >> q & 1) == 0) sum += Integer.compare(without, scoreNow(other));
            }
        }
        return sum;
    }

    public long alike(int a, int b, int part) {
        if (!isTable(a) || !isTable(b) || a == b || !isZeroOrOne(part)) return NO;
        reckon();
        int all = (1 << questionCount) - 1;
        int any = all & ~(rights[a] & rights[b]);
        int both = all & ~(rights[a] | rights[b]);
        if (any == 0) return NO;
        return lowest(Integer.bitCount(both), Integer.bitCount(any), part);
    }

    public int change(int what) {
        if (!isZeroOrOne(what)) return BAD;
        reckon();
        int found = NONE;
        int least = apartBy(ALL_QUESTIONS);
        for (int p = 0; p < peopleCount; p++) {
            for (int other = p + 1; other < peopleCount; other++) {
                int far = apartIfChanged(personAt(p), personAt(other));
                if (far != NONE && far < least) {
                    least = far;
                    found = 10 * p + other;
                }
            }
        }
        return what == 0 ? found : least;
    }

    // ---- told sheets

    public int judge(int s, int t) {
        int refusal = refusalOfTold(s);
        if (refusal != 0) return refusal;
        if (!isTable(t)) return NO_SUCH;
        reckon();
        return firstOtherwise(s, t);
    }

    public int whose(int s) {
        int refusal = refusalOfTold(s);
        if (refusal != 0) return refusal;
        reckon();
        int found = 0;
        for (int t = 0; t < TABLES; t++) {
            if (firstOtherwise(s, t) == NONE) found |= 1 << t;
        }
        return found;
    }

    public int depth(int s, int p, int topic) {
        int refusal = refusalOfTold(s);
        if (refusal != 0) return refusal;
        Guest one = personAt(p);
        if (one == null || one.seat == NONE) return NO_SUCH;
        if (!isTopic(topic)) return NOT_TOLD;
        int was = one.deepAt(topic);
        int found = 0;
        for (int deep = 0; deep <= DEEPEST; deep++) {
            one.becomeDeep(topic, deep);
            reckon();
            if (firstOtherwise(s, one.seat) == NONE) found |= 1 << deep;
        }
        one.becomeDeep(topic, was);
        return found;
    }

    public int laws(int s, int t) {
        int refusal = refusalOfTold(s);
        if (refusal != 0) return refusal;
        if (!isTable(t)) return NO_SUCH;
        int was = law;
        int found = 0;
        for (int n = 0; n < textCount; n++) {
            law = n;
            reckon();
            if (firstOtherwise(s, t) == NONE) found |= 1 << n;
        }
        law = was;
        return found;
    }

    public int film(int s, int t) {
        Sheet row = sheetAt(s);
        if (row == null) return BAD;
        if (!isTable(t)) return NO_SUCH;
        reckon();
        row.become(Sheet.INTS, questionCount);
        for (int q = 0; q < questionCount; q++) {
            row.put(q, rights[t] >> q & 1);
        }
        return questionCount;
    }

    // ---- evenings by lot

    public int drawn(int seed) {
        if (seed < 0 || seed >= SEEDS) return BAD;
        return winnerBy(seed);
    }

    public long odds(int seed, int seeds, int t, int part) {
        if (seed < 0 || seed >= SEEDS || seeds < 1 || seeds > MOST_SEEDS) return NO;
        if (!isTable(t) || !isZeroOrOne(part)) return NO;
        int won = 0;
        for (int i = 0; i < seeds; i++) {
            if (winnerBy(seed + i) == t) won++;
        }
        return lowest(won, seeds, part);
    }

    public int image() {
        kept.isThere = true;
        keepDepths(kept.deep);
        for (int p = 0; p < peopleCount; p++) {
            Guest one = personAt(p);
            if (one != null) kept.seats[p] = one.seat;
        }
        System.arraycopy(jokers, 0, kept.jokers, 0, TABLES);
        kept.people = peopleCount;
        kept.questions = questionCount;
        kept.law = law;
        return peopleCount;
    }

    public int back() {
        if (!kept.isThere) return STATE;
        for (int p = kept.people; p < peopleCount; p++) {
            people[p] = null;
        }
        peopleCount = kept.people;
        questionCount = kept.questions;
        law = kept.law;
        System.arraycopy(kept.jokers, 0, jokers, 0, TABLES);
        for (int p = 0; p < peopleCount; p++) {
            Guest one = personAt(p);
            if (one != null) one.seat = kept.seats[p];
        }
        giveDepths(kept.deep);
        return peopleCount;
    }

    // ---- the host

    public int sheet(int s, int sort, int n) {
        Sheet row = sheetAt(s);
        if (row == null || sort < Sheet.MISSING || sort > Sheet.INTS) return BAD;
        if (sort == Sheet.MISSING) {
            row.become(Sheet.MISSING, 0);
            return 1;
        }
        if (n > Sheet.ROOM) return BAD;
        if (n < 0) return BELOW;
        row.become(sort, n);
        return 1;
    }

    public int cell(int s, int i, int v) {
        Sheet row = sheetAt(s);
        if (row == null) return BAD;
        if (row.isMissing()) return NOTHING;
        if (!row.has(i)) return OUTSIDE;
        row.put(i, v);
        return 1;
    }

    public int copy(int s, int i, int other, int j, int n) {
        Sheet from = sheetAt(s);
        Sheet to = sheetAt(other);
        if (from == null || to == null) return BAD;
        if (from.isMissing() || to.isMissing()) return NOTHING;
        if (from.sort != to.sort) return OTHER_SORT;
        if (!from.hasRow(i, n) || !to.hasRow(j, n)) return OUTSIDE;
        System.arraycopy(from.numbers, i, to.numbers, j, n);
        return n;
    }

    public int depthsBy(int s, int sort, int at, int n) {
        Sheet row = sheetAt(s);
        if (row == null || sort < 0 || sort > Sheet.INTS || n < 0 || n > MOST_TRIPLES) return BAD;
        if (row.isMissing()) return NOTHING;
        if (row.sort != sort) return OTHER_SORT;
        int became = 0;
        int place = at;
        for (int i = 0; i < n; i++) {
            if (!row.hasRow(place, 3)) return OUTSIDE;
            if (learn(row.get(place), row.get(place + 1), row.get(place + 2)) >= 0) became++;
            place += 3;
        }
        return became;
    }

    public int taken(int i, int kind) {
        if (kind < 0 || kind > KINDS) return BAD;
        if (i < 0 || i >= QUESTIONS + PEOPLE) return OUTSIDE;
        if (i < QUESTIONS) {
            if (!isQuestion(i)) return NOTHING;
            return kind == KINDS ? asked[i] : OTHER_SORT;
        }
        Guest one = personAt(i - QUESTIONS);
        if (one == null) return NOTHING;
        return one.isOf(kind) ? i - QUESTIONS : OTHER_SORT;
    }

    // ---- what is told

    private static boolean isByte(int value) {
        return value >= 0 && value <= 255;
    }

    private static boolean isZeroOrOne(int what) {
        return what == 0 || what == 1;
    }

    private static boolean isTopic(int topic) {
        return topic >= 0 && topic < TOPICS;
    }

    private static boolean isTable(int t) {
        return t >= 0 && t < TABLES;
    }

    private static boolean isTableOrNone(int t) {
        return t == NONE || isTable(t);
    }

    private boolean isQuestion(int q) {
        return q >= 0 && q < questionCount && q < QUESTIONS;
    }

    private Guest personAt(int p) {
        return p >= 0 && p < peopleCount && p < PEOPLE ? people[p] : null;
    }

    private Sheet sheetAt(int s) {
        return s >= 0 && s < SHEETS ? sheets[s] : null;
    }

    private Text lawText() {
        return law >= 0 && law < TEXTS ? texts[law] : null;
    }

    private static int bounded(int value, int least, int most) {
        return Math.max(least, Math.min(most, value));
    }

    private static void name(int[] names, int depth, int asked, int loud) {
        if (names.length < Text.NAMES) return;
        names[0] = depth;
        names[1] = asked;
        names[2] = loud;
    }

    private static void nameMore(int[] names, int topic, int round, int who) {
        if (names.length < Text.NAMES) return;
        names[3] = topic;
        names[4] = round;
        names[5] = who;
    }

    /** Above (part 0) or below (part 1) the line; below is 1 or more. */
    private static long lowest(int above, int below, int part) {
        int a = below;
        int b = above;
        for (int steps = 0; steps < 100 && b > 0; steps++) {
            int rest = a % b;
            a = b;
            b = rest;
        }
        if (a == 0) return NO;
        return part == 0 ? above / a : below / a;
    }

    // ---- how it stands, by the answers reckoned last

    private void reckon() {
        answers.reckonPoints(lawText(), topics, asked, questionCount);
        for (int p = 0; p < PEOPLE; p++) {
            answers.reckonPerson(lawText(), p, personAt(p), topics, asked);
        }
        findRights();
    }

    private void findRights() {
        for (int t = 0; t < TABLES; t++) {
            rights[t] = answers.rightOf(seatedAt(t));
        }
    }

    private int seatedAt(int t) {
        int there = 0;
        for (int p = 0; p < peopleCount; p++) {
            Guest one = personAt(p);
            if (one != null && one.seat == t) there |= 1 << p;
        }
        return there;
    }

    private int scoreNow(int t) {
        return isTable(t) ? answers.worth(rights[t], jokers[t]) : 0;
    }

    /** The SCORE of a TABLE, did those (bits) sit there. */
    private int scoreIf(int t, int there) {
        return isTable(t) ? answers.worth(answers.rightOf(there), jokers[t]) : 0;
    }

    private int winner() {
        int found = 0;
        for (int t = 1; t < TABLES; t++) {
            if (scoreNow(t) > scoreNow(found)) found = t;
        }
        return found;
    }

    /** How far TABLES are APART, were those (bits) all QUESTIONS. */
    private int apartBy(int set) {
        int highest = answers.worth(rights[0] & set, jokers[0]);
        int least = highest;
        for (int t = 1; t < TABLES; t++) {
            int then = answers.worth(rights[t] & set, jokers[t]);
            highest = Math.max(highest, then);
            least = Math.min(least, then);
        }
        return highest - least;
    }

    /** How far APART, did those two change places; NONE, if they sit alike. */
    private int apartIfChanged(Guest one, Guest other) {
        if (one == null || other == null || one.seat == other.seat) return NONE;
        changePlaces(one, other);
        findRights();
        int far = apartBy(ALL_QUESTIONS);
        changePlaces(one, other);
        findRights();
        return far;
    }

    private static void changePlaces(Guest one, Guest other) {
        int seat = one.seat;
        one.seat = other.seat;
        other.seat = seat;
    }

    private int costOf(int p, Guest one) {
        Text said = lawText();
        if (said == null) return 0;
        int topic = one.deepestTopic();
        name(names, one.deepAt(topic), 0, one.told);
        nameMore(names, topic, 0, p);
        return said.says(HIRES, names);
    }

    // ---- told sheets, evenings by lot

    /** What refuses a SHEET that is to tell of all QUESTIONS; 0, if nothing does. */
    private int refusalOfTold(int s) {
        Sheet row = sheetAt(s);
        if (row == null) return BAD;
        if (row.isMissing()) return NOTHING;
        return row.size == questionCount ? 0 : BAD;
    }

    private int firstOtherwise(int s, int t) {
        Sheet row = sheetAt(s);
        if (row == null || !isTable(t)) return NONE;
        for (int q = 0; q < questionCount; q++) {
            if (row.get(q) != (rights[t] >> q & 1)) return q;
        }
        return NONE;
    }

    /** The TABLE of the highest SCORE, DRAWN by a SEED that may be past 99999. */
    private int winnerBy(int seed) {
        keepDepths(deepBefore);
        long lot = seed + 1L;
        for (int p = 0; p < peopleCount; p++) {
            Guest one = personAt(p);
            for (int topic = 0; topic < TOPICS; topic++) {
                lot = lot * LOT_FACTOR % LOT_MODULUS;
                int deeper = (int) (lot % 3) - 1;
                if (one != null) one.becomeDeep(topic, one.deepAt(topic) + deeper);
            }
        }
        reckon();
        int found = winner();
        giveDepths(deepBefore);
        return found;
    }

    private void keepDepths(int[] deep) {
        for (int i = 0; i < PEOPLE * TOPICS && i < deep.length; i++) {
            Guest one = personAt(i / TOPICS);
            if (one != null) deep[i] = one.deepAt(i % TOPICS);
        }
    }

    private void giveDepths(int[] deep) {
        for (int i = 0; i < PEOPLE * TOPICS && i < deep.length; i++) {
            Guest one = personAt(i / TOPICS);
            if (one != null) one.becomeDeep(i % TOPICS, deep[i]);
        }
    }

    /** One of PEOPLE, of any KIND. */
    private static final class Guest {
        private static final int TEACHER = 1, SHY = 2, LOUD_ONE = 3, QUIET = 4, TELEPHONE = 5;
        private static final int[] KIND_ABOVE = {-1, 0, 0, 1, 2, 0};

        private final int kind;
        private final int more;
        private final int told;
        private final int[] deep = new int[TOPICS];
        private int seat;

        Guest(int kind, int more, int told, int seat) {
            this.kind = kind;
            this.more = more;
            this.told = told;
            this.seat = seat;
        }

        boolean isOf(int wanted) {
            int above = kind;
            for (int steps = 0; steps < KINDS && above >= 0 && above < KINDS; steps++) {
                if (above == wanted) return true;
                above = KIND_ABOVE[above];
            }
            return false;
        }

        int deepAt(int topic) {
            return isTopic(topic) ? deep[topic] : 0;
        }

        void becomeDeep(int topic, int much) {
            if (isTopic(topic)) deep[topic] = bounded(much, 0, DEEPEST);
        }

        int deepestTopic() {
            int found = 0;
            for (int topic = 1; topic < TOPICS; topic++) {
                if (deep[topic] > deep[found]) found = topic;
            }
            return found;
        }

        /** The bound comes last: a LOUD ONE is less sure than a TEACHER of more than 9, too. */
        int knows(int topic, int round) {
            int much = deepAt(topic);
            if (isOf(TEACHER) && isOwn(topic)) much += 3;
            if (isOf(LOUD_ONE)) much -= round / 3;
            if (isOf(QUIET)) much += 2;
            if (isOf(TELEPHONE) && round >= more) much = DEEPEST;
            return bounded(much, 0, DEEPEST);
        }

        int loudAt(int topic) {
            if (isOf(QUIET) && !isOwn(topic)) return 0;
            if (isOf(SHY)) return told / 3;
            return isOf(LOUD_ONE) ? 2 * told + 5 : told;
        }

        private boolean isOwn(int topic) {
            return topic == more % TOPICS;
        }
    }

    /** What each of PEOPLE weighs and has in mind at each QUESTION, and what a QUESTION counts. */
    private static final class Answers {
        private final int[] weights = new int[PEOPLE * QUESTIONS];
        private final int[] able = new int[QUESTIONS];
        private final int[] points = new int[QUESTIONS];
        private final int[] names = new int[Text.NAMES];
        private int count;

        /** Begins anew: nobody is reckoned then. */
        void reckonPoints(Text law, int[] topics, int[] asked, int questions) {
            count = bounded(questions, 0, Math.min(QUESTIONS, Math.min(topics.length, asked.length)));
            for (int q = 0; q < count; q++) {
                able[q] = 0;
                name(names, 0, asked[q], 0);
                nameMore(names, topics[q], q, 0);
                points[q] = law == null ? 0 : law.says(POINTS, names);
            }
        }

        void reckonPerson(Text law, int p, Guest one, int[] topics, int[] asked) {
            if (law == null || one == null || p < 0 || p >= PEOPLE) return;
            for (int q = 0; q < count && q < topics.length && q < asked.length; q++) {
                int known = one.knows(topics[q], q);
                if (known >= asked[q]) able[q] |= 1 << p;
                name(names, known, asked[q], one.loudAt(topics[q]));
                nameMore(names, topics[q], q, p);
                weights[p * QUESTIONS + q] = law.says(WEIGHT, names);
            }
        }

        /** Whom those (bits) BELIEVE at a QUESTION. */
        int believed(int there, int q) {
            if (q < 0 || q >= count) return NONE;
            int found = NONE;
            int most = 0;
            for (int p = 0; p < PEOPLE; p++) {
                if ((there >> p & 1) == 0) continue;
                int weight = weights[p * QUESTIONS + q];
                if (found == NONE || weight > most) {
                    found = p;
                    most = weight;
                }
            }
            return found;
        }

        /** Which of those (bits) KNOW as much as is ASKED. */
        int ableOf(int there, int q) {
            return q >= 0 && q < count ? able[q] & there : 0;
        }

        /** QUESTIONS (bits) of which any of those (bits) KNOWS as much as is ASKED. */
        int coveredBy(int there) {
            int found = 0;
            for (int q = 0; q < count; q++) {
                if (ableOf(there, q) != 0) found |= 1 << q;
            }
            return found;
        }

        /** QUESTIONS (bits) that are RIGHT, if those (bits) sit at a TABLE. */
        int rightOf(int there) {
            int found = 0;
            for (int q = 0; q < count; q++) {
                int speaker = believed(there, q);
                if (speaker != NONE && (able[q] >> speaker & 1) == 1) found |= 1 << q;
            }
            return found;
        }

        int worth(int right, int joker) {
            int sum = 0;
            for (int q = 0; q < count; q++) {
                if ((right >> q & 1) == 0) continue;
                sum += q == joker ? 2 * points[q] : points[q];
            }
            return sum;
        }
    }

    /** A row of numbers, or a missing one: its numbers are made once and used again. */
    private static final class Sheet {
        private static final int MISSING = -1, BYTES = 0, SHORTS = 1, INTS = 2, ROOM = 40;

        private final int[] numbers = new int[ROOM];
        private int sort = MISSING;
        private int size;

        boolean isMissing() {
            return sort == MISSING;
        }

        void become(int newSort, int newSize) {
            sort = newSort;
            size = bounded(newSize, 0, ROOM);
            Arrays.fill(numbers, 0);
        }

        boolean has(int i) {
            return i >= 0 && i < size;
        }

        /** Whether n numbers stand from i on. */
        boolean hasRow(int i, int n) {
            return i >= 0 && n >= 0 && i <= size - n;
        }

        int get(int i) {
            return has(i) ? numbers[i] : 0;
        }

        void put(int i, int value) {
            if (!has(i)) return;
            numbers[i] = sort == BYTES ? (byte) value : sort == SHORTS ? (short) value : value;
        }
    }

    /** What AN IMAGE keeps. */
    private static final class Image {
        private final int[] deep = new int[PEOPLE * TOPICS];
        private final int[] seats = new int[PEOPLE];
        private final int[] jokers = new int[TABLES];
        private boolean isThere;
        private int people;
        private int questions;
        private int law;
    }

    /**
     * A TEXT as three rows of steps over a pile of ints: a NUMBER (0 or more) or a NAME is put on it, any other
     * step takes what it needs from it and puts its answer there.
     */
    private static final class Text {
        private static final int NAMES = 6;
        private static final int DEPTH = -1, ASKED = -2, LOUD = -3, TOPIC = -4, ROUND = -5, WHO = -6;
        private static final int OR = -7, AND = -8, NOT = -9, LESS = -10, EQUAL = -11;
        private static final int PLUS = -12, MINUS = -13, TIMES = -14, NEGATE = -15;
        /** Six levels of at most five that wait (or, and, <, +, *), and the last one. */
        private static final int PILE = 32;

        private final int[] steps;
        private final int pointsFrom;
        private final int hiresFrom;
        private final int[] pile = new int[PILE];

        Text(int[] steps, int pointsFrom, int hiresFrom) {
            this.steps = steps;
            this.pointsFrom = pointsFrom;
            this.hiresFrom = hiresFrom;
        }

        int says(int part, int[] names) {
            switch (part) {
                case WEIGHT: return bounded(valueOf(0, pointsFrom, names), -999, 999);
                case POINTS: return bounded(valueOf(pointsFrom, hiresFrom, names), 0, 99);
                default: return bounded(valueOf(hiresFrom, steps.length, names), 0, 99);
            }
        }

        private int valueOf(int from, int to, int[] names) {
            if (from < 0 || names.length < NAMES) return 0;
            int top = 0;
            for (int i = from; i < to && i < steps.length; i++) {
                int step = steps[i];
                if (step >= WHO && top < PILE) {
                    pile[top] = step >= 0 ? step : names[-1 - step];
                    top++;
                } else if (step == NOT && top > 0) {
                    pile[top - 1] = pile[top - 1] == 0 ? 1 : 0;
                } else if (step == NEGATE && top > 0) {
                    pile[top - 1] = -pile[top - 1];
                } else if (top > 1) {
                    top--;
                    pile[top - 1] = joined(step, pile[top - 1], pile[top]);
                }
            }
            return pile[0];
        }

        private static int joined(int step, int a, int b) {
            switch (step) {
                case OR: return a != 0 || b != 0 ? 1 : 0;
                case AND: return a != 0 && b != 0 ? 1 : 0;
                case LESS: return a < b ? 1 : 0;
                case EQUAL: return a == b ? 1 : 0;
                case PLUS: return a + b;
                case MINUS: return a - b;
                default: return a * b;
            }
        }
    }

    /** THE TAPE, and how it is read: a TOKEN that is a NUMBER, a NAME or a step is what Text has for it. */
    private static final class Tape {
        private static final int ROOM = 160, MOST_OPEN = 5, MOST_DIGITS = 4;
        private static final int OPENED = -16, CLOSED = -17, ENDED = -18;
        private static final int WEIGHTS = -19, COUNTS = -20, COSTS = -21;
        private static final int OVER = -22, WRONG = -23;

        private final int[] bytes = new int[ROOM];
        private final int[] steps = new int[ROOM];
        private int size;
        private int at;
        private int place;
        private int token;
        private int stepCount;

        void put(int value) {
            if (size >= ROOM) return;
            bytes[size] = value;
            size++;
        }

        void write(String letters) {
            for (int i = 0; i < letters.length(); i++) {
                put(letters.charAt(i));
            }
        }

        void clear() {
            size = 0;
        }

        /** The TEXT; null by a FAULT, whose place is then that of the last TOKEN. */
        Text read() {
            at = 0;
            stepCount = 0;
            next();
            if (!readPart(WEIGHTS)) return null;
            int pointsFrom = stepCount;
            if (!readPart(COUNTS)) return null;
            int hiresFrom = stepCount;
            if (!readPart(COSTS) || token != OVER) return null;
            return new Text(Arrays.copyOf(steps, stepCount), pointsFrom, hiresFrom);
        }

        private boolean readPart(int key) {
            return took(key) && readE(0) && took(ENDED);
        }

        private boolean readE(int open) {
            if (!readAnd(open)) return false;
            for (int i = 0; i < ROOM && token == Text.OR; i++) {
                next();
                if (!readAnd(open)) return false;
                step(Text.OR);
            }
            return true;
        }

        private boolean readAnd(int open) {
            if (!readNot(open)) return false;
            for (int i = 0; i < ROOM && token == Text.AND; i++) {
                next();
                if (!readNot(open)) return false;
                step(Text.AND);
            }
            return true;
        }

        private boolean readNot(int open) {
            if (token == Text.NOT) {
                if (open >= MOST_OPEN) return false;
                next();
                if (!readNot(open + 1)) return false;
                step(Text.NOT);
                return true;
            }
            if (!readSum(open)) return false;
            int sign = token;
            if (sign != Text.LESS && sign != Text.EQUAL) return true;
            next();
            if (!readSum(open)) return false;
            step(sign);
            return true;
        }

        private boolean readSum(int open) {
            if (!readTerm(open)) return false;
            for (int i = 0; i < ROOM && (token == Text.PLUS || token == Text.MINUS); i++) {
                int sign = token;
                next();
                if (!readTerm(open)) return false;
                step(sign);
            }
            return true;
        }

        private boolean readTerm(int open) {
            if (!readOne(open)) return false;
            for (int i = 0; i < ROOM && token == Text.TIMES; i++) {
                next();
                if (!readOne(open)) return false;
                step(Text.TIMES);
            }
            return true;
        }

        private boolean readOne(int open) {
            if (token >= Text.WHO) {
                step(token);
                next();
                return true;
            }
            if (token != Text.MINUS && token != OPENED || open >= MOST_OPEN) return false;
            if (token == OPENED) {
                next();
                if (!readE(open + 1) || token != CLOSED) return false;
                next();
                return true;
            }
            next();
            if (!readOne(open + 1)) return false;
            step(Text.NEGATE);
            return true;
        }

        private boolean took(int wanted) {
            if (token != wanted) return false;
            next();
            return true;
        }

        private void step(int what) {
            if (stepCount >= ROOM) return;
            steps[stepCount] = what;
            stepCount++;
        }

        private void next() {
            while (at < size && isBlank(byteAt(at))) {
                at++;
            }
            place = at;
            if (at >= size) {
                token = OVER;
            } else if (isLetter(byteAt(at))) {
                token = word();
            } else if (isDigit(byteAt(at))) {
                token = number();
            } else {
                token = sign(byteAt(at));
                at++;
            }
        }

        private int number() {
            int value = 0;
            while (at < size && isDigit(byteAt(at))) {
                if (at - place < MOST_DIGITS) value = 10 * value + byteAt(at) - '0';
                at++;
            }
            return at - place > MOST_DIGITS ? WRONG : value;
        }

        private int word() {
            while (at < size && isLetter(byteAt(at))) {
                at++;
            }
            if (isWord("depth")) return Text.DEPTH;
            if (isWord("asked")) return Text.ASKED;
            if (isWord("loud")) return Text.LOUD;
            if (isWord("topic")) return Text.TOPIC;
            if (isWord("round")) return Text.ROUND;
            if (isWord("who")) return Text.WHO;
            if (isWord("or")) return Text.OR;
            if (isWord("and")) return Text.AND;
            if (isWord("not")) return Text.NOT;
            if (isWord("weight")) return WEIGHTS;
            if (isWord("points")) return COUNTS;
            return isWord("hires") ? COSTS : WRONG;
        }

        /** Whether the word from place till at is that one. */
        private boolean isWord(String wanted) {
            if (wanted.length() != at - place) return false;
            for (int i = 0; i < wanted.length(); i++) {
                int n = place + i;
                if (n < 0 || n >= ROOM || wanted.charAt(i) != bytes[n]) return false;
            }
            return true;
        }

        private static int sign(int value) {
            switch (value) {
                case '(': return OPENED;
                case ')': return CLOSED;
                case ';': return ENDED;
                case '+': return Text.PLUS;
                case '-': return Text.MINUS;
                case '*': return Text.TIMES;
                case '<': return Text.LESS;
                case '=': return Text.EQUAL;
                default: return WRONG;
            }
        }

        private int byteAt(int i) {
            return i >= 0 && i < ROOM ? bytes[i] : 0;
        }

        private static boolean isBlank(int value) {
            return value == 32 || value == 10;
        }

        private static boolean isLetter(int value) {
            return value >= 'a' && value <= 'z';
        }

        private static boolean isDigit(int value) {
            return value >= '0' && value <= '9';
        }
    }
}
