import java.math.BigInteger;

/** The document's section 2: what TABLES BELIEVE, SCORES, LOTS, IMAGES, SHEETS, REFUSALS. */
public final class TermTests {
    private static final long NO = -4611686018427387904L;
    private static final Reading READ = new Reading("terms");

    public static void main(String[] args) {
        READ.part("At a QUESTION a TABLE BELIEVES", "Ahead of the calls `count`");
        believes();
        isRight();
        points();
        apart();
        drawn();
        deeper();
        lots();
        images();
        sheets();
        sorts();
        refusalsInOrder();
        answersBehindRefusals();
        refusals();
        refusalsOfTheHost();
        refusedChangesNothing();
        askedChangesNothing();
        READ.end();
    }

    private static void next(String sentence) {
        READ.next(sentence);
    }

    private static void due(String call, long got, long want) {
        READ.due(call, got, want);
    }

    private static void believes() {
        next("At a QUESTION a TABLE BELIEVES, of those who sit there, the one of most weight,");
        QuestionsInAnInn inn = Inns.weighing("loud - 10");
        Inns.guest(inn, 3, 1);
        Inns.guest(inn, 4, 1);
        Inns.guest(inn, 20, 0);
        Inns.guest(inn, 20, -1);
        inn.question(0, 0);
        due("the heavier one, below 0, too", inn.answer(1, 0, 0), 1);
        due("one alone", inn.answer(0, 0, 0), 2);
        inn.sit(3, 1);
        due("a still heavier one", inn.answer(1, 0, 0), 3);
        next("of like ones the first");
        inn.sit(2, 1);
        due("two of 10", inn.answer(1, 0, 0), 2);
        QuestionsInAnInn all = Inns.weighing("0");
        for (int p = 0; p < 7; p++) Inns.guest(all, p, 2, 9);
        all.question(0, 0);
        for (int p = 0; p < 7; p++) {
            due("of " + (7 - p) + " like ones", all.answer(2, 0, 0), p);
            all.sit(p, 0);
        }
        next("(none, if nobody does);");
        due("nobody is left", all.answer(2, 0, 0), -1);
        due("nobody came", all.answer(1, 0, 0), -1);
    }

    private static void isRight() {
        next("it is RIGHT, if that one KNOWS as much as is ASKED, or more.");
        QuestionsInAnInn inn = new QuestionsInAnInn();
        Inns.guest(inn, 9, 0, 5);
        Inns.guest(inn, 1, 0, 9);
        Inns.ask(inn, 0, 4, 0, 5, 0, 6, 0, 0, 0, 9, 1, 0, 1, 1);
        int[] rights = {1, 1, 0, 1, 0, 1, 0};
        for (int q = 0; q < 7; q++) {
            due("QUESTION " + q, inn.answer(0, q, 1), rights[q]);
            due("nobody, at QUESTION " + q, inn.answer(1, q, 1), 0);
        }
        inn.learn(0, 0, 9);
        due("9 of 9", inn.answer(0, 4, 1), 1);
        due("RIGHT, as bits", inn.score(0, 1), 63);
    }

    private static void points() {
        next("It gets points for each QUESTION that it has RIGHT, twice as many for that before which its JOKER lies;");
        QuestionsInAnInn inn = Inns.withLaw("weight depth ; points 10 + round ; hires 1 ;");
        Inns.guest(inn, 0, 0, 5);
        Inns.ask(inn, 0, 5, 0, 6, 0, 4);
        due("two of three", inn.score(0, 0), 22);
        inn.lay(0, 2);
        due("the last one twice", inn.score(0, 0), 34);
        inn.lay(0, 1);
        due("one that is not RIGHT twice", inn.score(0, 0), 22);
        inn.lay(0, -1);
        inn.lay(1, 0);
        due("another TABLE's JOKER", inn.score(0, 0), 22);
        due("nobody with a JOKER", inn.score(1, 0), 0);
        next("SCORE: all of them together.");
        QuestionsInAnInn most = Inns.withLaw("weight 1 ; points 9999 ; hires 1 ;");
        due("no QUESTIONS", most.score(2, 0), 0);
        Inns.guest(most, 0, 2);
        for (int q = 0; q < 8; q++) most.question(q % 4, 0);
        due("eight times 99", most.score(2, 0), 792);
        most.lay(2, 7);
        due("nine times 99", most.score(2, 0), 891);
    }

    private static void apart() {
        next("APART: how far the highest SCORE of TABLES is above the least.");
        QuestionsInAnInn inn = new QuestionsInAnInn();
        due("none", inn.evening(1), 0);
        for (int t = 0; t < 3; t++) Inns.guest(inn, 0, t, 3);
        Inns.ask(inn, 0, 3, 0, 2, 0, 1);
        due("3, 3, 3", inn.evening(1), 0);
        inn.learn(1, 0, 2);
        due("3, 2, 3", inn.evening(1), 1);
        inn.learn(2, 0, 0);
        due("3, 2, 0", inn.evening(1), 3);
        inn.learn(0, 0, 0);
        due("0, 2, 0", inn.evening(1), 2);
        inn.learn(2, 0, 9);
        due("0, 2, 3", inn.evening(1), 3);
        inn.sit(2, -1);
        due("0, 2, nobody", inn.evening(1), 2);
    }

    /** LOT number n (from 0 on) by a SEED, reckoned without a bound. */
    private static int lot(int seed, int n) {
        BigInteger factor = BigInteger.valueOf(48271);
        BigInteger modulus = BigInteger.valueOf(2147483647);
        return BigInteger.valueOf(seed + 1).multiply(factor.pow(n + 1)).mod(modulus).intValue();
    }

    /** LOTS by SEED 0 are 48271, 182605794, 1291394886, 1914720637, 2078669041, 407355683, ..: modulo 3 1, 0, 0, 1, 1, 2. */
    private static void drawn() {
        next("DRAWN by a SEED (0 .. 99999), in thought:");
        QuestionsInAnInn inn = new QuestionsInAnInn();
        Inns.guest(inn, 0, 1, 0, 5);
        inn.question(1, 5);
        due("-1", inn.drawn(-1), -2);
        due("100000", inn.drawn(100000), -2);
        due("by 0 that one knows less", inn.drawn(0), 0);
        due("by 99999 LOT 1 is", lot(99999, 1) % 3, 2);
        due("by 99999 that one knows more", inn.drawn(99999), 1);
        due("in thought: DEEP stays", inn.told(0, 1), 5);
        due("in thought: RIGHT stays", inn.score(1, 1), 1);
        next("for each of PEOPLE, TOPIC by TOPIC, a LOT:");
        for (int p = 0; p < 7; p++) {
            for (int topic = 0; topic < 4; topic++) lotIsOf(p, topic);
        }
    }

    /** One of seven at table 1 knows one topic 5; all others sit at none and know nothing. */
    private static void lotIsOf(int one, int topic) {
        QuestionsInAnInn inn = new QuestionsInAnInn();
        for (int p = 0; p < 7; p++) inn.come(0, 0, p == one ? 1 : -1);
        inn.learn(one, topic, 5);
        inn.question(topic, 5);
        QuestionsInAnInn more = new QuestionsInAnInn();
        for (int p = 0; p < 7; p++) more.come(0, 0, p == one ? 1 : -1);
        more.learn(one, topic, 5);
        more.question(topic, 6);
        for (int seed = 0; seed < 3; seed++) {
            int less = lot(seed, 4 * one + topic) % 3;
            due("5 of " + one + " in " + topic + " by " + seed, inn.drawn(seed), less > 0 ? 1 : 0);
            due("6 of " + one + " in " + topic + " by " + seed, more.drawn(seed), less > 1 ? 1 : 0);
        }
    }

    private static void deeper() {
        next("one knows it LOT modulo 3 less 1 DEEPER (0 .. 9).");
        QuestionsInAnInn least = new QuestionsInAnInn();
        least.come(11, 0, 1);
        least.question(1, 3);
        due("by 0 a TEACHER of DEEP 0, less 1, still KNOWS 3", least.drawn(0), 1);
        for (int asked = 8; asked <= 9; asked++) {
            QuestionsInAnInn most = new QuestionsInAnInn();
            Inns.guest(most, 0, -1);
            most.come(30, 0, 1);
            most.learn(1, 1, 9);
            Inns.ask(most, 2, 9, 2, 9, 2, 9, 1, asked);
            due("by 0 a LOUD ONE of DEEP 9, 1 more, still KNOWS 8", most.drawn(0), asked == 8 ? 1 : 0);
        }
        QuestionsInAnInn one = new QuestionsInAnInn();
        Inns.guest(one, 0, -1);
        Inns.guest(one, 0, 1, 0, 8);
        one.question(1, 9);
        due("by 0 8 is 9", one.drawn(0), 1);
        one.learn(1, 1, 7);
        due("by 0 7 is 8", one.drawn(0), 0);
        QuestionsInAnInn low = new QuestionsInAnInn();
        Inns.guest(low, 0, 1, 0, 1);
        low.question(1, 1);
        due("by 0 1 is 0", low.drawn(0), 0);
    }

    private static void lots() {
        next("LOTS: the first is (SEED and 1) times 48271 modulo 2147483647,");
        due("the first by 0", lot(0, 0), 48271);
        due("the first by 44488 is past 2147483647", lot(44488, 0), 44872);
        firstLots(new int[] {0, 1, 2, 3, 44486, 44487, 44488, 44489, 44490, 44491, 88976, 88977, 88978, 99997, 99998, 99999});
        next("each further one the last times 48271 modulo 2147483647.");
        int[] known = {48271, 182605794, 1291394886, 1914720637, 2078669041, 407355683};
        for (int n = 0; n < known.length; n++) due("LOT " + n + " by 0", lot(0, n), known[n]);
        lotIsOf(6, 3);
        lotIsOf(1, 1);
    }

    private static void firstLots(int[] seeds) {
        QuestionsInAnInn inn = new QuestionsInAnInn();
        Inns.guest(inn, 0, 1, 5);
        inn.question(0, 5);
        QuestionsInAnInn more = new QuestionsInAnInn();
        Inns.guest(more, 0, 1, 5);
        more.question(0, 6);
        for (int seed : seeds) {
            due("5 of 5 by " + seed, inn.drawn(seed), lot(seed, 0) % 3 > 0 ? 1 : 0);
            due("6 of 5 by " + seed, more.drawn(seed), lot(seed, 0) % 3 > 1 ? 1 : 0);
        }
    }

    private static void images() {
        QuestionsInAnInn inn = Inns.someEvening();
        Inns.write(inn, "weight who ; points 5 ; hires 1 ;");
        inn.lay(1, 2);
        inn.image();
        for (int p = 0; p < 4; p++) {
            for (int topic = 0; topic < 4; topic++) inn.learn(p, topic, 8);
        }
        for (int p = 0; p < 4; p++) inn.sit(p, 2);
        for (int t = 0; t < 3; t++) inn.lay(t, 1);
        inn.come(59, 20, 0);
        inn.question(3, 9);
        inn.force(1);
        inn.back();
        next("AN IMAGE keeps how DEEP all know TOPICS,");
        int[][] deep = {{4, 0, 0, 0}, {0, 6, 0, 0}, {7, 2, 0, 0}, {0, 9, 0, 0}};
        for (int p = 0; p < 4; p++) {
            for (int topic = 0; topic < 4; topic++) due("of " + p, inn.told(p, topic), deep[p][topic]);
        }
        next("where all sit,");
        int[] seats = {0, 0, 1, -1};
        for (int p = 0; p < 4; p++) due("of " + p, inn.told(p, 4), seats[p]);
        next("JOKERS,");
        for (int t = 0; t < 3; t++) due("of " + t, inn.laid(t), t == 1 ? 2 : -1);
        next("how many PEOPLE and QUESTIONS there are,");
        due("PEOPLE", inn.count(0), 4);
        due("QUESTIONS", inn.count(1), 3);
        next("THE LAW.");
        due("it", inn.count(3), 0);
        due("by it", inn.score(0, 0), 3);
    }

    private static void sheets() {
        next("SHEETS 0 .. 3 are rows of numbers,");
        QuestionsInAnInn inn = Inns.someEvening();
        for (int s : Inns.outside(0, 3)) {
            due("sheet " + s, inn.sheet(s, 0, 0), -2);
            due("sheet " + s + " missing", inn.sheet(s, -1, 0), -2);
            due("cell of " + s, inn.cell(s, 0, 0), -2);
            due("copy from " + s, inn.copy(s, 0, 0, 0, 0), -2);
            due("copy to " + s, inn.copy(0, 0, s, 0, 0), -2);
            due("depthsBy " + s, inn.depthsBy(s, 0, 0, 0), -2);
            due("judge of " + s, inn.judge(s, 0), -2);
            due("whose " + s, inn.whose(s), -2);
            due("depth by " + s, inn.depth(s, 0, 0), -2);
            due("laws by " + s, inn.laws(s, 0), -2);
            due("film to " + s, inn.film(s, 0), -2);
        }
        next("or missing (as all are at first):");
        for (int s = 0; s <= 3; s++) {
            due("cell of " + s, inn.cell(s, 0, 0), -11);
            due("copy of " + s, inn.copy(s, 0, s, 0, 0), -11);
            due("depthsBy " + s, inn.depthsBy(s, 0, 0, 0), -11);
            due("judge of " + s, inn.judge(s, 0), -11);
            due("whose " + s, inn.whose(s), -11);
            due("depth by " + s, inn.depth(s, 0, 0), -11);
            due("laws by " + s, inn.laws(s, 0), -11);
        }
        for (int s = 0; s <= 3; s++) {
            due("a row", inn.sheet(s, s % 3, s), 1);
            for (int other = 0; other <= 3; other++) due("size of " + other, Inns.sizeOf(inn, other), other <= s ? other : -1);
        }
    }

    private static void sorts() {
        next("of sort 0 bytes, 1 shorts, 2 ints,");
        QuestionsInAnInn inn = new QuestionsInAnInn();
        for (int sort = 0; sort <= 2; sort++) {
            due("sort " + sort, inn.sheet(sort, sort, 1), 1);
            for (int other = 0; other <= 2; other++) {
                due("taken for " + other, inn.depthsBy(sort, other, 0, 0), other == sort ? 0 : -13);
            }
        }
        inn.question(0, 0);
        Inns.guest(inn, 0, 0);
        int[][] ones = {{257, 1, 0, 0}, {65537, 1, 1, 0}, {1, 1, 1, 1}, {-255, 1, 0, 0}, {-65535, 1, 1, 0}, {16777217, 1, 1, 0}};
        for (int[] one : ones) {
            for (int sort = 0; sort <= 2; sort++) {
                inn.cell(sort, 0, one[0]);
                due(one[0] + " in sort " + sort + " is 1", inn.whose(sort) & 1, one[1 + sort]);
            }
        }
        next("40 at most.");
        for (int sort = 0; sort <= 2; sort++) {
            due("40", inn.sheet(sort, sort, 40), 1);
            due("the last", inn.cell(sort, 39, 1), 1);
            due("behind it", inn.cell(sort, 40, 1), -12);
            due("41", inn.sheet(sort, sort, 41), -2);
            due("still 40", inn.cell(sort, 39, 1), 1);
        }
    }

    /** Four people, three questions, SHEET 0 of ints as told by TABLE 1, 1 of two bytes, 2 missing, 3 of 6 shorts. */
    private static QuestionsInAnInn rich() {
        QuestionsInAnInn inn = Inns.someEvening();
        Inns.write(inn, "weight who ; points 5 ; hires 1 ;");
        inn.lay(1, 2);
        Inns.fillInts(inn, 0, 1, 0, 1);
        Inns.fill(inn, 1, 0, 1, 0);
        Inns.fill(inn, 3, 1, 0, 0, 3, 9, 9, 9);
        return inn;
    }

    /** As many of all as can be, for rich(). */
    private static void fillUp(QuestionsInAnInn inn) {
        for (int p = 4; p < 7; p++) inn.come(0, 0, -1);
        for (int q = 3; q < 8; q++) inn.question(0, 0);
        for (int n = 2; n < 6; n++) Inns.write(inn, "weight 1 ; points 1 ; hires 1 ;");
        Inns.feed(inn, "A".repeat(160));
    }

    private static void refusalsInOrder() {
        next("REFUSALS, of several the first one told");
        QuestionsInAnInn inn = rich();
        due("lay", inn.lay(3, 9), -5);
        due("learn", inn.learn(9, 9, 99), -5);
        due("sit", inn.sit(9, 9), -5);
        due("told", inn.told(9, 9), -5);
        due("askedOf", inn.askedOf(9, 9), -5);
        due("answer", inn.answer(3, 0, 9), -5);
        due("answer", inn.answer(0, 9, 9), -5);
        due("score", inn.score(3, 9), -5);
        due("best", inn.best(3, 9), -5);
        due("join", inn.join(3, 9), -5);
        due("leave", inn.leave(3, 9), -5);
        due("hire", inn.hire(3, 1000, 9), -5);
        due("judge: SHEET", inn.judge(4, 9), -2);
        due("judge: nothing there", inn.judge(2, 9), -11);
        due("judge: its size", inn.judge(1, 9), -2);
        due("depth: SHEET", inn.depth(4, 9, 9), -2);
        due("depth: nothing there", inn.depth(2, 9, 9), -11);
        due("depth: its size", inn.depth(1, 9, 9), -2);
        due("depth: no such one", inn.depth(0, 9, 9), -5);
        due("depth: one sits at none", inn.depth(0, 3, 9), -5);
        due("laws: SHEET", inn.laws(4, 9), -2);
        due("laws: nothing there", inn.laws(2, 9), -11);
        due("laws: its size", inn.laws(1, 9), -2);
        due("film: SHEET", inn.film(4, 9), -2);
        due("sheet: SHEET", inn.sheet(4, 0, -1), -2);
        due("sheet: sort", inn.sheet(0, 3, -1), -2);
        due("cell: SHEET", inn.cell(4, 99, 0), -2);
        due("cell: nothing there", inn.cell(2, 99, 0), -11);
        due("copy: SHEETS", inn.copy(2, 0, 4, 0, -1), -2);
        due("copy: nothing there", inn.copy(2, 99, 0, 99, -1), -11);
        due("copy: nothing there", inn.copy(0, 99, 2, 99, -1), -11);
        due("copy: unlike sorts", inn.copy(0, 99, 1, 99, -1), -13);
        due("depthsBy: SHEET", inn.depthsBy(4, 0, 99, 1), -2);
        due("depthsBy: sort", inn.depthsBy(2, 3, 99, 1), -2);
        due("depthsBy: n", inn.depthsBy(2, 1, 99, 13), -2);
        due("depthsBy: nothing there", inn.depthsBy(2, 1, 99, 1), -11);
        due("depthsBy: another sort", inn.depthsBy(0, 1, 99, 1), -13);
        due("taken: kind", inn.taken(15, 7), -2);
        due("taken: i", inn.taken(15, 6), -12);
        due("taken: nothing there", inn.taken(7, 0), -11);
        due("taken: nothing there", inn.taken(14, 6), -11);
        fillUp(inn);
        due("feed", inn.feed(6, 65, 65, 65, 65, 65), -2);
        due("feed", inn.feed(1, 65, 65, 65, 65, 256), -2);
        due("come", inn.come(60, 0, 0), -2);
        due("question", inn.question(4, 0), -2);
        due("text: FULL ahead of the FAULT", inn.text(), -4);
    }

    private static void answersBehindRefusals() {
        next("(a -1 that is an answer comes behind the refusal of a number):");
        QuestionsInAnInn inn = rich();
        due("whom TABLE 2 BELIEVES", inn.answer(2, 0, 0), -1);
        due("what 3", inn.answer(2, 0, 3), -7);
        due("best of TABLE 2", inn.best(2, 0), -1);
        due("what 2", inn.best(2, 2), -7);
        due("join of TABLE 0", inn.join(0, 0), -1);
        due("what 2", inn.join(0, 2), -7);
        due("hire for TABLE 2", inn.hire(2, 8, 0), -1);
        due("what that one costs", inn.hire(2, 8, 1), -1);
        due("what 2", inn.hire(2, 8, 2), -7);
        due("coin -1", inn.hire(2, -1, 0), -7);
        due("close of four", inn.close(4, 0), -1);
        due("how far", inn.close(4, 1), -1);
        due("what 2", inn.close(4, 2), -2);
        due("close of nine", inn.close(9, 0), -2);
        inn.sit(2, 0);
        inn.sit(0, -1);
        inn.sit(1, -1);
        inn.sit(2, -1);
        due("change", inn.change(0), -1);
        due("what 2", inn.change(2), -2);
        Inns.fillInts(inn, 0, 0, 0, 0);
        due("judge of TABLE 0", inn.judge(0, 0), -1);
        due("of TABLE 3", inn.judge(0, 3), -5);
        due("laid of TABLE 0", inn.laid(0), -1);
        due("of TABLE 3", inn.laid(3), -5);
        due("the TABLE of one", inn.told(0, 4), -1);
        due("of nobody", inn.told(4, 4), -5);
    }

    private static void refusals() {
        next("NONE there is no such thing; BAD a number is not as told; STATE as told; FULL.");
        QuestionsInAnInn inn = rich();
        due("NONE", QuestionsInAnInn.NONE, -1);
        due("BAD", QuestionsInAnInn.BAD, -2);
        due("STATE", QuestionsInAnInn.STATE, -3);
        due("FULL", QuestionsInAnInn.FULL, -4);
        due("NO", QuestionsInAnInn.NO, NO);
        due("NONE", inn.best(2, 0), QuestionsInAnInn.NONE);
        due("BAD", inn.count(5), QuestionsInAnInn.BAD);
        due("STATE", inn.back(), QuestionsInAnInn.STATE);
        fillUp(inn);
        due("FULL of PEOPLE", inn.come(0, 0, 0), QuestionsInAnInn.FULL);
        due("FULL of QUESTIONS", inn.question(0, 0), QuestionsInAnInn.FULL);
        due("FULL of TEXTS", inn.text(), QuestionsInAnInn.FULL);
        due("FULL of bytes", inn.feed(1, 0, 0, 0, 0, 0), QuestionsInAnInn.FULL);
        due("NO", inn.alike(0, 0, 0), QuestionsInAnInn.NO);
    }

    private static void refusalsOfTheHost() {
        next("The host's: -11 nothing there, -12 a place outside, -13 of another sort or KIND, -14 a size below 0.");
        QuestionsInAnInn inn = rich();
        due("nothing there", inn.cell(2, 0, 0), -11);
        due("nobody there", inn.taken(12, 0), -11);
        due("a place outside", inn.cell(0, 3, 0), -12);
        due("a place outside", inn.taken(-1, 0), -12);
        due("of another sort", inn.copy(0, 0, 1, 0, 1), -13);
        due("of another KIND", inn.taken(8, 1), -13);
        due("a size below 0", inn.sheet(2, 0, -1), -14);
        due("still nothing there", inn.cell(2, 0, 0), -11);
    }

    /** What refuses, on rich(), and what refuses once it is full. */
    private static void refuse(QuestionsInAnInn inn) {
        due("feed", inn.feed(0, 97, 97, 97, 97, 97) + inn.feed(5, 97, 97, 97, 97, 256), -4);
        due("force", inn.force(-1) + inn.force(2), -4);
        due("asks", inn.asks(3, 0, 0, 0, 0) + inn.asks(0, 100, 0, 0, 0), -4);
        due("come", inn.come(60, 0, 0) + inn.come(0, 21, 0) + inn.come(0, 0, 3), -6);
        due("learn", inn.learn(4, 0, 1) + inn.learn(0, 4, 1) + inn.learn(0, 0, 10) + inn.learn(0, 0, -1), -26);
        due("sit", inn.sit(4, 0) + inn.sit(0, 3) + inn.sit(0, -2), -19);
        due("question", inn.question(4, 0) + inn.question(0, 10), -4);
        due("lay", inn.lay(3, 0) + inn.lay(1, 3) + inn.lay(1, -2), -19);
        due("back", inn.back(), -3);
        due("depth", inn.depth(0, 3, 0) + inn.depth(0, 2, 4) + inn.depth(2, 2, 0), -23);
        due("laws", inn.laws(0, 3) + inn.laws(1, 0), -7);
        due("film", inn.film(4, 0) + inn.film(1, 3) + inn.film(2, -1), -12);
        due("drawn", inn.drawn(-1) + inn.drawn(100000), -4);
        due("odds", inn.odds(0, 31, 0, 0), NO);
        due("sheet", inn.sheet(0, 3, 2) + inn.sheet(0, 1, 41) + inn.sheet(0, 1, -1) + inn.sheet(2, 0, -1), -32);
        due("cell", inn.cell(0, 3, 7) + inn.cell(0, -1, 7) + inn.cell(2, 0, 7) + inn.cell(4, 0, 7), -37);
        due("copy out of the row", inn.copy(0, 0, 0, 1, 3) + inn.copy(0, 1, 0, 0, 3) + inn.copy(3, 0, 3, 5, 2), -36);
        due("copy", inn.copy(0, 0, 3, 0, 1) + inn.copy(0, 0, 2, 0, 1) + inn.copy(0, 1, 0, 0, -1), -36);
        due("depthsBy", inn.depthsBy(3, 2, 0, 1) + inn.depthsBy(3, 1, 4, 1) + inn.depthsBy(3, 1, 0, 13), -27);
        due("taken", inn.taken(15, 0) + inn.taken(14, 0), -23);
    }

    private static void refusedChangesNothing() {
        next("They change nothing, but where it is told.");
        QuestionsInAnInn inn = rich();
        Inns.feed(inn, "weight 7 ;");
        String before = Inns.seen(inn);
        refuse(inn);
        READ.same("what is seen", Inns.seen(inn), before);
        due("THE TAPE's bytes are as before", Inns.write(inn, " points 1 ; hires 1 ;"), 2);
        inn.force(2);
        due("they say as before", inn.asks(0, 0, 0, 0, 0), 7);
        QuestionsInAnInn full = rich();
        fillUp(full);
        full.learn(6, 3, 5);
        before = Inns.seen(full);
        due("come", full.come(0, 0, 0), -4);
        due("question", full.question(0, 0), -4);
        due("text", full.text(), -4);
        due("feed", full.feed(1, 97, 0, 0, 0, 0), -4);
        READ.same("what is seen of a full one", Inns.seen(full), before);
        due("but a FAULT empties THE TAPE", Inns.write(rich(), "weight ;"), -107);
        QuestionsInAnInn faulty = rich();
        Inns.write(faulty, "weight ;");
        due("but a FAULT empties THE TAPE", faulty.count(4), 0);
        due("but what stood ahead became so", faulty.depthsBy(3, 1, 0, 3), -12);
        due("but what stood ahead became so", faulty.told(0, 0), 3);
    }

    private static void ask(QuestionsInAnInn inn) {
        for (int half = 0; half <= 1; half++) {
            for (int t = 0; t < 3; t++) {
                inn.best(t, half);
                inn.join(t, half);
                inn.leave(t, half);
                inn.hire(t, 99, half);
                inn.alike(t, (t + 1) % 3, half);
                inn.odds(5 * t, 30, t, half);
            }
            inn.evening(half);
            inn.cover(half);
            inn.close(2, half);
            inn.change(half);
        }
        for (int t = 0; t < 3; t++) {
            for (int what = 0; what <= 2; what++) {
                inn.score(t, what);
                inn.answer(t, 1, what);
            }
            inn.judge(0, t);
            inn.laws(0, t);
            inn.good(t);
            inn.drawn(1000 * t);
            inn.taken(t, 6);
        }
        for (int p = 0; p < 4; p++) {
            for (int topic = 0; topic < 4; topic++) inn.depth(0, p, topic);
            inn.price(p);
            inn.taken(8 + p, 0);
        }
        inn.whose(0);
    }

    private static void askedChangesNothing() {
        next("What is asked changes nothing, but where it is told.");
        QuestionsInAnInn inn = rich();
        Inns.feed(inn, "weight 7 ;");
        String before = Inns.seen(inn);
        ask(inn);
        READ.same("what is seen", Inns.seen(inn), before);
        QuestionsInAnInn kept = rich();
        Inns.feed(kept, "weight 7 ;");
        before = Inns.seen(kept);
        kept.image();
        ask(kept);
        kept.back();
        READ.same("what is seen when THE IMAGE is back", Inns.seen(kept), before);
        due("THE TAPE's bytes are as before", Inns.write(kept, " points 1 ; hires 1 ;"), 2);
        due("but film() truly changes a SHEET", kept.film(2, 0), 3);
        due("but film() truly changes a SHEET", kept.whose(2), 1);
        due("but lay() truly lays", kept.lay(2, 1), -1);
        due("but lay() truly lays", kept.laid(2), 1);
    }
}
