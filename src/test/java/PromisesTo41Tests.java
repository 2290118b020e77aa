import java.math.BigInteger;

/** Promises 28 to 41: told sheets, evenings by lot, the host. */
public final class PromisesTo41Tests {
    private static final long NO = -4611686018427387904L;
    private static final Reading READ = new Reading("promises 28 to 41");

    public static void main(String[] args) {
        READ.behindPromise(27);
        judge();
        whose();
        depth();
        laws();
        film();
        drawn();
        odds();
        image();
        back();
        sheet();
        cell();
        copy();
        depthsBy();
        taken();
        READ.end();
    }

    private static void next(String sentence) {
        READ.next(sentence);
    }

    private static void due(String call, long got, long want) {
        READ.due(call, got, want);
    }

    // ---- told sheets

    /** someEvening(), SHEET 0 as TABLE 1 has it, 1 a row too short, 2 one too long, 3 missing. */
    private static QuestionsInAnInn toldEvening() {
        QuestionsInAnInn inn = Inns.someEvening();
        Inns.fillInts(inn, 0, 1, 0, 1);
        Inns.fillInts(inn, 1, 1, 0);
        Inns.fillInts(inn, 2, 1, 0, 1, 0);
        return inn;
    }

    private static void judge() {
        READ.promise(28);
        next("A SHEET tells for each QUESTION 1, if it is RIGHT, 0, if not: the first that a TABLE has otherwise; -1: none.");
        QuestionsInAnInn inn = toldEvening();
        due("as TABLE 1 has it", inn.judge(0, 1), -1);
        due("TABLE 0 has 1 otherwise", inn.judge(0, 0), 1);
        due("TABLE 2 has 0 otherwise", inn.judge(0, 2), 0);
        inn.cell(0, 2, 0);
        due("the last one otherwise", inn.judge(0, 1), 2);
        for (int value : new int[] {2, -1, 256, Integer.MIN_VALUE}) {
            inn.cell(0, 2, value);
            due("neither 1 nor 0: " + value, inn.judge(0, 1), 2);
        }
        for (int sort = 0; sort <= 2; sort++) {
            Inns.fill(inn, 0, sort, 1, 0, 1);
            due("of sort " + sort, inn.judge(0, 1), -1);
        }
        QuestionsInAnInn none = new QuestionsInAnInn();
        none.sheet(0, 1, 0);
        for (int t = 0; t < 3; t++) due("of no QUESTIONS", none.judge(0, t), -1);
        QuestionsInAnInn eight = new QuestionsInAnInn();
        for (int q = 0; q < 8; q++) eight.question(0, 0);
        Inns.fillInts(eight, 0, 0, 0, 0, 0, 0, 0, 0, 1);
        due("the last of eight", eight.judge(0, 0), 7);
        next("BAD: SHEET;");
        for (int s : Inns.outside(0, 3)) due("SHEET " + s, inn.judge(s, 9), -2);
        next("-11;");
        due("a missing one", inn.judge(3, 9), -11);
        next("BAD: its size isn't how many QUESTIONS there are;");
        due("too short", inn.judge(1, 9), -2);
        due("too long", inn.judge(2, 9), -2);
        inn.question(0, 0);
        due("not too long now", inn.judge(2, 2), 0);
        due("too short now", inn.judge(0, 1), -2);
        eight.sheet(1, 0, 0);
        due("none of eight", eight.judge(1, 0), -2);
        next("-5: no such TABLE.");
        for (int t : Inns.outside(0, 2)) due("TABLE " + t, inn.judge(2, t), -5);
    }

    private static void whose() {
        READ.promise(29);
        next("TABLES (bits) of which that is -1.");
        QuestionsInAnInn inn = toldEvening();
        due("TABLE 1", inn.whose(0), 2);
        Inns.fillInts(inn, 0, 1, 1, 1);
        due("TABLE 0", inn.whose(0), 1);
        Inns.fillInts(inn, 0, 0, 0, 0);
        due("TABLE 2", inn.whose(0), 4);
        inn.sit(2, -1);
        due("TABLES 1 and 2", inn.whose(0), 6);
        Inns.fillInts(inn, 0, 0, 1, 1);
        due("none", inn.whose(0), 0);
        QuestionsInAnInn none = new QuestionsInAnInn();
        none.sheet(0, 0, 0);
        due("all, of no QUESTIONS", none.whose(0), 7);
        next("BAD, -11, BAD likewise.");
        for (int s : Inns.outside(0, 3)) due("SHEET " + s, inn.whose(s), -2);
        due("a missing one", inn.whose(3), -11);
        due("too short", inn.whose(1), -2);
        due("too long", inn.whose(2), -2);
    }

    private static void depth() {
        READ.promise(30);
        next("How DEEP (bits 0 .. 9) one can know a TOPIC so that it is -1 of one's TABLE.");
        QuestionsInAnInn inn = toldEvening();
        due("4 .. 9 of TOPIC 0", inn.depth(0, 2, 0), 1008);
        due("0 .. 4 of TOPIC 1", inn.depth(0, 2, 1), 31);
        due("any of TOPIC 2", inn.depth(0, 2, 2), 1023);
        due("any of TOPIC 3", inn.depth(0, 2, 3), 1023);
        due("none at TABLE 0", inn.depth(0, 0, 3), 0);
        due("it stays", inn.told(2, 0), 7);
        inn.learn(2, 0, 0);
        due("whatever one knows now", inn.depth(0, 2, 0), 1008);
        due("it stays", inn.told(2, 0), 0);
        QuestionsInAnInn edges = new QuestionsInAnInn();
        Inns.guest(edges, 0, 0, 5);
        edges.question(0, 9);
        edges.sheet(0, 0, 1);
        due("0 .. 8", edges.depth(0, 0, 0), 511);
        edges.cell(0, 0, 1);
        due("9", edges.depth(0, 0, 0), 512);
        QuestionsInAnInn easy = new QuestionsInAnInn();
        Inns.guest(easy, 0, 0, 5);
        easy.question(0, 1);
        easy.sheet(0, 0, 1);
        due("0", easy.depth(0, 0, 0), 1);
        next("BAD, -11, BAD likewise;");
        for (int s : Inns.outside(0, 3)) due("SHEET " + s, inn.depth(s, 9, 9), -2);
        due("a missing one", inn.depth(3, 9, 9), -11);
        due("too short", inn.depth(1, 9, 9), -2);
        due("too long", inn.depth(2, 9, 9), -2);
        next("-5: no such one, one sits at none;");
        for (int p : Inns.outside(0, 3)) due("of " + p, inn.depth(0, p, 9), -5);
        due("one sits at none", inn.depth(0, 3, 9), -5);
        due("one sits at none", inn.depth(0, 3, 0), -5);
        inn.sit(3, 2);
        due("one sits at TABLE 2", inn.depth(0, 3, 9), -7);
        next("-7: no such TOPIC.");
        for (int topic : Inns.outside(0, 3)) due("TOPIC " + topic, inn.depth(0, 2, topic), -7);
    }

    private static void laws() {
        READ.promise(31);
        next("TEXTS (bits), were they THE LAW, by which it is -1.");
        QuestionsInAnInn inn = toldEvening();
        inn.sit(3, 1);
        Inns.write(inn, "weight depth ; points 1 ; hires 1 ;");
        Inns.write(inn, "weight 0 - loud ; points 1 ; hires 1 ;");
        due("by TEXT 2 guest 2 is believed", inn.laws(0, 1), 4);
        Inns.fillInts(inn, 0, 1, 1, 1);
        due("by TEXT 1 the deepest", inn.laws(0, 1), 2);
        Inns.fillInts(inn, 0, 0, 1, 1);
        due("by TEXT 0 the loudest", inn.laws(0, 1), 1);
        Inns.fillInts(inn, 0, 0, 0, 1);
        due("by none", inn.laws(0, 1), 0);
        Inns.fillInts(inn, 0, 0, 0, 0);
        due("by all, of nobody", inn.laws(0, 2), 7);
        inn.force(2);
        due("whatever THE LAW is", inn.laws(0, 2), 7);
        due("it stays", inn.count(3), 2);
        for (int n = 3; n <= 5; n++) Inns.write(inn, "weight 1 ; points 1 ; hires 1 ;");
        due("by all six", inn.laws(0, 2), 63);
        due("by TEXT 0 alone", new QuestionsInAnInn().laws(0, 0), -11);
        next("BAD, -11, BAD, -5 as of judge().");
        for (int s : Inns.outside(0, 3)) due("SHEET " + s, inn.laws(s, 9), -2);
        due("a missing one", inn.laws(3, 9), -11);
        due("too short", inn.laws(1, 9), -2);
        due("too long", inn.laws(2, 9), -2);
        for (int t : Inns.outside(0, 2)) due("TABLE " + t, inn.laws(0, t), -5);
    }

    private static void film() {
        READ.promise(32);
        next("A SHEET truly becomes that of a TABLE (ints): how many QUESTIONS.");
        QuestionsInAnInn inn = toldEvening();
        inn.sheet(2, 0, 40);
        due("in a row of bytes", inn.film(2, 1), 3);
        due("it is that of TABLE 1", inn.whose(2), 2);
        due("its sort", Inns.sortOf(inn, 2), 2);
        due("its size", Inns.sizeOf(inn, 2), 3);
        due("in a missing one", inn.film(3, 0), 3);
        due("it is that of TABLE 0", inn.whose(3), 1);
        due("of nobody", inn.film(3, 2), 3);
        due("it is that of TABLE 2", inn.whose(3), 4);
        inn.sit(2, 2);
        due("it stays as it was then", inn.whose(3), 2);
        QuestionsInAnInn none = new QuestionsInAnInn();
        due("no QUESTIONS", none.film(1, 0), 0);
        due("its sort", Inns.sortOf(none, 1), 2);
        due("its size", Inns.sizeOf(none, 1), 0);
        Inns.guest(none, 0, 1);
        for (int q = 0; q < 8; q++) none.question(0, q % 2);
        due("eight", none.film(1, 1), 8);
        due("the one who sits there", none.whose(1), 2);
        next("BAD: SHEET;");
        for (int s : Inns.outside(0, 3)) due("SHEET " + s, inn.film(s, 9), -2);
        next("-5: no such TABLE.");
        for (int t : Inns.outside(0, 2)) due("TABLE " + t, inn.film(1, t), -5);
        due("it stays", Inns.sizeOf(inn, 1), 2);
    }

    // ---- evenings by lot

    /** LOT number n (from 0 on) by a SEED modulo 3 less 1, reckoned without a bound. */
    private static int deeper(int seed, int n) {
        BigInteger first = BigInteger.valueOf(seed + 1);
        BigInteger modulus = BigInteger.valueOf(2147483647);
        BigInteger lot = first.multiply(BigInteger.valueOf(48271).pow(n + 1)).mod(modulus);
        return lot.intValue() % 3 - 1;
    }

    /** One who sits at none, and one at table 2 who knows topic 0 4 DEEP, where 5 is ASKED: LOT 4 tells. */
    private static QuestionsInAnInn lotEvening() {
        QuestionsInAnInn inn = new QuestionsInAnInn();
        Inns.guest(inn, 0, -1);
        Inns.guest(inn, 0, 2, 4);
        inn.question(0, 5);
        return inn;
    }

    private static void drawn() {
        READ.promise(33);
        next("DRAWN: evening(0) then.");
        QuestionsInAnInn inn = lotEvening();
        for (int seed = 0; seed < 100000; seed += 1111) {
            due("by " + seed, inn.drawn(seed), deeper(seed, 4) == 1 ? 2 : 0);
        }
        due("by 99999", inn.drawn(99999), deeper(99999, 4) == 1 ? 2 : 0);
        due("it stays", inn.told(1, 0), 4);
        QuestionsInAnInn like = new QuestionsInAnInn();
        for (int t = 2; t >= 0; t--) Inns.guest(like, 0, t, 9);
        like.question(0, 1);
        due("of like ones the first", like.drawn(7), 0);
        like.sit(2, -1);
        due("of like ones the first", like.drawn(7), 1);
        like.lay(2, 0);
        due("with a JOKER", like.drawn(7), 2);
        due("nobody", new QuestionsInAnInn().drawn(0), 0);
        next("BAD.");
        for (int seed : Inns.outside(0, 99999)) due("by " + seed, inn.drawn(seed), -2);
    }

    private static int wonBy(int seed, int seeds) {
        int won = 0;
        for (int i = 0; i < seeds; i++) {
            if (deeper(seed + i, 4) == 1) won++;
        }
        return won;
    }

    private static void odds() {
        READ.promise(34);
        next("In how many of so many (1 .. 30) seeds, SEED and each 1 more (they may pass 99999), that is TABLE t:");
        QuestionsInAnInn inn = lotEvening();
        for (int seed = 0; seed < 10; seed++) due("one seed", inn.odds(seed, 1, 2, 0), wonBy(seed, 1));
        for (int seed = 99990; seed < 100000; seed++) due("one seed", inn.odds(seed, 1, 2, 0), wonBy(seed, 1));
        for (int[] range : new int[][] {{0, 30}, {7, 12}, {500, 29}, {99970, 30}, {99971, 30}, {99999, 2}, {99999, 30}}) {
            int won = wonBy(range[0], range[1]);
            due("of TABLE 2 times below", inn.odds(range[0], range[1], 2, 0) * range[1],
                inn.odds(range[0], range[1], 2, 1) * won);
            due("else of TABLE 0", inn.odds(range[0], range[1], 0, 0) * range[1],
                inn.odds(range[0], range[1], 0, 1) * (range[1] - won));
            due("never of TABLE 1", inn.odds(range[0], range[1], 1, 0), 0);
        }
        due("it stays", inn.told(1, 0), 4);
        next("part 0 above, 1 below the line, in lowest terms.");
        for (int seeds = 1; seeds <= 30; seeds++) {
            int by = BigInteger.valueOf(wonBy(3, seeds)).gcd(BigInteger.valueOf(seeds)).intValue();
            due("above, of " + seeds, inn.odds(3, seeds, 2, 0), wonBy(3, seeds) / by);
            due("below, of " + seeds, inn.odds(3, seeds, 2, 1), seeds / by);
        }
        due("none of 30 is none of one", inn.odds(0, 30, 1, 1), 1);
        due("30 of 30 is one of one", new QuestionsInAnInn().odds(0, 30, 0, 0), 1);
        due("30 of 30 is one of one", new QuestionsInAnInn().odds(0, 30, 0, 1), 1);
        next("NO: none such.");
        for (int seed : Inns.outside(0, 99999)) due("SEED " + seed, inn.odds(seed, 1, 0, 0), NO);
        for (int seeds : Inns.outside(1, 30)) due("seeds " + seeds, inn.odds(0, seeds, 0, 0), NO);
        for (int t : Inns.outside(0, 2)) due("TABLE " + t, inn.odds(0, 1, t, 0), NO);
        for (int part : Inns.outside(0, 1)) due("part " + part, inn.odds(0, 1, 0, part), NO);
    }

    private static void image() {
        READ.promise(35);
        next("AN IMAGE is kept: how many PEOPLE.");
        QuestionsInAnInn inn = new QuestionsInAnInn();
        due("nobody", inn.image(), 0);
        due("nobody is back", inn.back(), 0);
        Inns.guest(inn, 0, 0, 4);
        due("one", inn.image(), 1);
        inn.learn(0, 0, 9);
        due("another one instead", inn.image(), 1);
        inn.learn(0, 0, 1);
        due("it is kept", inn.back() + 10 * inn.told(0, 0), 91);
        for (int p = 1; p < 7; p++) Inns.guest(inn, 0, 0);
        String before = Inns.seen(inn);
        due("seven", inn.image(), 7);
        READ.same("it changes nothing", Inns.seen(inn), before);
    }

    private static void back() {
        READ.promise(36);
        next("All that it keeps is as in THE IMAGE,");
        QuestionsInAnInn inn = Inns.someEvening();
        Inns.write(inn, "weight 1 ; points 9 ; hires 1 ;");
        inn.lay(0, 1);
        String before = Inns.seen(inn);
        inn.image();
        for (int topic = 0; topic < 4; topic++) inn.learn(3, topic, 8);
        inn.sit(3, 2);
        inn.sit(0, -1);
        inn.lay(0, -1);
        inn.lay(2, 0);
        inn.force(1);
        Inns.guest(inn, 20, 0, 9);
        inn.question(3, 9);
        inn.back();
        READ.same("all that is seen", Inns.seen(inn), before);
        due("no more, when it is as it was", inn.back(), 4);
        READ.same("all that is seen", Inns.seen(inn), before);
        fullImage();
        otherThings();
        next("PEOPLE, QUESTIONS that came since are none:");
        QuestionsInAnInn since = Inns.someEvening();
        since.image();
        for (int p = 4; p < 7; p++) Inns.guest(since, 20, 0, 9);
        for (int q = 3; q < 8; q++) since.question(3, 9);
        since.lay(0, 7);
        since.back();
        due("who came", since.told(4, 0), -5);
        due("what came", since.askedOf(3, 0), -5);
        due("its JOKER", since.laid(0), -1);
        due("whom TABLE 0 BELIEVES", since.answer(0, 0, 0), 0);
        due("who cover all", since.cover(1), 3);
        due("nothing there", since.taken(12, 0), -11);
        due("nothing there", since.taken(3, 6), -11);
        for (int p = 4; p < 7; p++) {
            due("a new one", since.come(17, 2, 1), p);
            due("who knows nothing", since.told(p, 0), 0);
            due("of that KIND", since.told(p, 5), 1);
        }
        due("an eighth", since.come(17, 2, 1), -4);
        for (int q = 3; q < 8; q++) due("a new QUESTION", since.question(1, 2), q);
        due("a ninth", since.question(1, 2), -4);
        next("how many PEOPLE there are.");
        due("four", since.back(), 4);
        due("four again", since.back(), 4);
        due("four", since.count(0), 4);
        due("three", since.count(1), 3);
        next("STATE: there is none.");
        due("of a new one", new QuestionsInAnInn().back(), -3);
        due("of another", Inns.someEvening().back(), -3);
    }

    /** Seven of PEOPLE, eight QUESTIONS, all otherwise than in a new object. */
    private static void fullImage() {
        QuestionsInAnInn inn = Inns.withLaw("weight 1 ; points 9 ; hires 1 ;");
        for (int p = 0; p < 7; p++) {
            inn.come(10 * (p % 6) + p, p, 2 - p % 4);
            for (int topic = 0; topic < 4; topic++) inn.learn(p, topic, 1 + (p + topic) % 9);
        }
        for (int q = 0; q < 8; q++) inn.question(q % 4, q);
        for (int t = 0; t < 3; t++) inn.lay(t, 7 - t);
        String before = Inns.seen(inn);
        inn.image();
        for (int p = 0; p < 7; p++) {
            inn.sit(p, p % 2);
            for (int topic = 0; topic < 4; topic++) inn.learn(p, topic, 0);
        }
        for (int t = 0; t < 3; t++) inn.lay(t, -1);
        inn.force(0);
        due("seven", inn.back(), 7);
        READ.same("all that is seen of seven", Inns.seen(inn), before);
    }

    /** What AN IMAGE doesn't keep stays as it is. */
    private static void otherThings() {
        QuestionsInAnInn inn = Inns.someEvening();
        inn.image();
        due("a TEXT", Inns.write(inn, "weight 1 ; points 9 ; hires 1 ;"), 1);
        inn.feed(2, 97, 98, 0, 0, 0);
        Inns.fillInts(inn, 1, 1, 0, 1);
        inn.back();
        due("TEXTS stay", inn.count(2), 2);
        due("THE TAPE stays", inn.count(4), 2);
        due("a SHEET stays", inn.whose(1), 2);
    }

    // ---- the host

    private static void sheet() {
        READ.promise(37);
        next("A SHEET becomes a row of n of a sort, all 0, or missing (sort -1: n does not matter): 1.");
        QuestionsInAnInn inn = new QuestionsInAnInn();
        for (int sort = 0; sort <= 2; sort++) {
            for (int n : new int[] {0, 1, 39, 40}) {
                due(n + " of sort " + sort, inn.sheet(3, sort, n), 1);
                due("its sort", Inns.sortOf(inn, 3), sort);
                due("its size", Inns.sizeOf(inn, 3), n);
            }
        }
        for (int n : new int[] {0, -1, 41, Integer.MIN_VALUE, Integer.MAX_VALUE}) {
            inn.sheet(0, 0, 4);
            due("missing, n " + n, inn.sheet(0, -1, n), 1);
            due("nothing there", inn.cell(0, 0, 0), -11);
            due("missing again", inn.sheet(0, -1, n), 1);
        }
        for (int q = 0; q < 3; q++) inn.question(0, 0);
        Inns.fillInts(inn, 1, 1, 1, 1);
        for (int sort = 0; sort <= 2; sort++) {
            due("anew", inn.sheet(1, sort, 3), 1);
            due("all 0", inn.whose(1), 7);
            for (int i = 0; i < 3; i++) inn.cell(1, i, 1);
            due("all 1", inn.whose(1), 0);
        }
        next("BAD: SHEET, sort, n above 40;");
        inn.sheet(0, 1, 5);
        for (int s : Inns.outside(0, 3)) due("SHEET " + s, inn.sheet(s, 0, 1), -2);
        for (int sort : Inns.outside(-1, 2)) due("sort " + sort, inn.sheet(0, sort, 1), -2);
        for (int sort = 0; sort <= 2; sort++) {
            due("41 of sort " + sort, inn.sheet(0, sort, 41), -2);
            due("as many as can be", inn.sheet(0, sort, Integer.MAX_VALUE), -2);
        }
        due("it stays", Inns.sizeOf(inn, 0), 5);
        due("it stays", Inns.sortOf(inn, 0), 1);
        next("-14.");
        for (int sort = 0; sort <= 2; sort++) {
            due("-1 of sort " + sort, inn.sheet(0, sort, -1), -14);
            due("least of all", inn.sheet(0, sort, Integer.MIN_VALUE), -14);
        }
        due("it stays", Inns.sizeOf(inn, 0), 5);
        due("it stays", Inns.sortOf(inn, 0), 1);
    }

    private static void cell() {
        READ.promise(38);
        next("Number i of a SHEET becomes v (of bytes, shorts its lowest 8, 16 bits): 1.");
        QuestionsInAnInn inn = new QuestionsInAnInn();
        Inns.guest(inn, 0, 0);
        for (int sort = 0; sort <= 2; sort++) inn.sheet(sort, sort, 3);
        int[][] values = {{7, 7, 7, 7}, {263, 7, -1, -1}, {65543, 7, 7, -1}, {-249, 7, -1, -1}, {-65529, 7, 7, -1},
            {Integer.MIN_VALUE + 7, 7, 7, -1}, {135, -1, -1, -1}, {-1, -1, -1, -1}, {1 << 30, 0, 0, -1}};
        for (int[] one : values) {
            for (int sort = 0; sort <= 2; sort++) {
                due("a number", inn.cell(sort, 2, one[0]), 1);
                int known = one[1 + sort];
                due(one[0] + " is 0 .. 9", inn.depthsBy(sort, sort, 0, 1), known >= 0 ? 1 : 0);
                if (known >= 0) due("it is " + known, inn.told(0, 0), known);
            }
        }
        inn.sheet(3, 2, 40);
        due("the first", inn.cell(3, 0, 1), 1);
        due("the last", inn.cell(3, 39, 1), 1);
        next("BAD: SHEET;");
        for (int s : Inns.outside(0, 3)) due("SHEET " + s, inn.cell(s, 99, 0), -2);
        next("-11;");
        inn.sheet(0, -1, 0);
        due("nothing there", inn.cell(0, 0, 0), -11);
        due("nothing there", inn.cell(0, 99, 0), -11);
        next("-12.");
        for (int i : Inns.outside(0, 2)) due("number " + i, inn.cell(1, i, 1), -12);
        for (int i : Inns.outside(0, 39)) due("number " + i, inn.cell(3, i, 1), -12);
        inn.sheet(1, 1, 0);
        due("of an empty one", inn.cell(1, 0, 1), -12);
    }

    /** Five QUESTIONS of which TABLE 0 has 0, 2 and 4 RIGHT: 1, 0, 1, 0, 1. */
    private static QuestionsInAnInn fiveQuestions() {
        QuestionsInAnInn inn = new QuestionsInAnInn();
        Inns.guest(inn, 0, 0, 9);
        for (int q = 0; q < 5; q++) inn.question(q % 2, 5);
        return inn;
    }

    private static void copy() {
        READ.promise(39);
        next("n numbers of a SHEET, from i on, come to another one's (or its own) place j (as they were): n.");
        QuestionsInAnInn inn = fiveQuestions();
        Inns.fillInts(inn, 0, 7, 1, 0, 1, 0, 1, 7);
        Inns.fillInts(inn, 1, 7, 7, 7, 7, 7);
        due("all five", inn.copy(0, 1, 1, 0, 5), 5);
        due("they came", inn.whose(1), 1);
        due("to its own place", inn.copy(1, 0, 1, 0, 5), 5);
        due("they stay", inn.whose(1), 1);
        due("two, upwards", inn.copy(1, 0, 1, 2, 2), 2);
        due("they stay", inn.whose(1), 1);
        Inns.fillInts(inn, 1, 0, 1, 0, 1, 9);
        due("as they were, upwards", inn.copy(1, 0, 1, 1, 4), 4);
        inn.cell(1, 0, 1);
        due("1, 0, 1, 0, 1", inn.whose(1), 1);
        Inns.fillInts(inn, 1, 9, 1, 0, 1, 0);
        due("as they were, downwards", inn.copy(1, 1, 1, 0, 4), 4);
        inn.cell(1, 4, 1);
        due("1, 0, 1, 0, 1", inn.whose(1), 1);
        due("none", inn.copy(0, 0, 1, 0, 0), 0);
        due("none behind the last", inn.copy(0, 7, 1, 5, 0), 0);
        due("they stay", inn.whose(1), 1);
        for (int sort = 0; sort <= 2; sort++) {
            Inns.fill(inn, 2, sort, 1, 0, 1, 0, 1);
            inn.sheet(3, sort, 5);
            due("of sort " + sort, inn.copy(2, 0, 3, 0, 5), 5);
            due("they came", inn.whose(3), 1);
        }
        next("BAD: SHEETS;");
        inn.sheet(3, -1, 0);
        for (int s : Inns.outside(0, 3)) {
            due("from SHEET " + s, inn.copy(s, 0, 3, 0, -1), -2);
            due("to SHEET " + s, inn.copy(3, 0, s, 0, -1), -2);
        }
        next("-11;");
        due("nothing there", inn.copy(3, 99, 2, 0, -1), -11);
        due("nothing there to come to", inn.copy(2, 99, 3, 0, -1), -11);
        due("nothing there, both", inn.copy(3, 0, 3, 0, 0), -11);
        next("-13: unlike sorts;");
        for (int sort = 0; sort <= 2; sort++) {
            for (int other = 0; other <= 2; other++) {
                inn.sheet(2, sort, 3);
                inn.sheet(3, other, 3);
                due(sort + " to " + other, inn.copy(2, 0, 3, 0, 0), sort == other ? 0 : -13);
                due(sort + " to " + other + " outside", inn.copy(2, 99, 3, 0, -1), sort == other ? -12 : -13);
            }
        }
        next("-12 (n below 0, too).");
        for (int i : Inns.outside(0, 6)) due("from " + i, inn.copy(0, i, 1, 0, 1), -12);
        for (int j : Inns.outside(0, 4)) due("to " + j, inn.copy(0, 0, 1, j, 1), -12);
        due("more than stand", inn.copy(0, 2, 0, 0, 6), -12);
        due("more than have room", inn.copy(0, 0, 1, 0, 6), -12);
        due("more than have room from there", inn.copy(0, 0, 1, 1, 5), -12);
        for (int n : new int[] {-1, Integer.MIN_VALUE}) due("n " + n, inn.copy(0, 0, 1, 0, n), -12);
        for (int at : new int[] {0, 1, Integer.MAX_VALUE}) {
            due("so many", inn.copy(0, at, 1, 0, Integer.MAX_VALUE), -12);
            due("so many", inn.copy(0, 0, 1, at, Integer.MAX_VALUE), -12);
        }
        due("none from outside", inn.copy(0, 8, 1, 0, 0), -12);
        due("none to outside", inn.copy(0, 0, 1, 6, 0), -12);
        due("they stay", inn.whose(1), 1);
    }

    private static void depthsBy() {
        READ.promise(40);
        next("How DEEP TOPICS are known, by a SHEET of a sort: from a place on, three by three (as of learn()), n of them (0 .. 12):");
        for (int sort = 0; sort <= 2; sort++) {
            QuestionsInAnInn inn = Inns.someEvening();
            Inns.fill(inn, 0, sort, 77, 0, 3, 9, 3, 1, 0, 1, 2, 8, 2, 0);
            due("from 1 on three of sort " + sort, inn.depthsBy(0, sort, 1, 3), 3);
            due("the first", inn.told(0, 3), 9);
            due("the second", inn.told(3, 1), 0);
            due("the third", inn.told(1, 2), 8);
            due("no fourth", inn.told(2, 0), 7);
            due("none", inn.depthsBy(0, sort, 1, 0), 0);
            inn.sheet(0, sort, 36);
            due("twelve", inn.depthsBy(0, sort, 0, 12), 12);
            due("of one", inn.told(0, 0), 0);
            due("eleven from 3", inn.depthsBy(0, sort, 3, 11), 11);
        }
        next("how many became so (others are left out).");
        QuestionsInAnInn inn = Inns.someEvening();
        int[][] others = {{4, 0, 1}, {-1, 0, 1}, {0, 4, 1}, {0, -1, 1}, {0, 0, 10}, {0, 0, -1}};
        for (int[] one : others) {
            Inns.fillInts(inn, 0, 1, 3, 5, one[0], one[1], one[2], 3, 3, 6);
            due("the second is left out", inn.depthsBy(0, 2, 0, 3), 2);
            due("not the first", inn.learn(1, 3, 0), 5);
            due("not the third", inn.learn(3, 3, 0), 6);
            due("it stays", inn.told(0, 0), 4);
        }
        Inns.fillInts(inn, 0, 9, 9, 9);
        due("none", inn.depthsBy(0, 2, 0, 1), 0);
        depthsByRefused();
    }

    private static void depthsByRefused() {
        next("BAD: SHEET, sort, n;");
        QuestionsInAnInn inn = Inns.someEvening();
        inn.sheet(0, 2, 40);
        for (int s : Inns.outside(0, 3)) due("SHEET " + s, inn.depthsBy(s, 0, 99, 1), -2);
        for (int sort : Inns.outside(0, 2)) due("sort " + sort, inn.depthsBy(1, sort, 99, 1), -2);
        for (int n : Inns.outside(0, 12)) due("n " + n, inn.depthsBy(1, 0, 99, n), -2);
        next("-11;");
        for (int sort = 0; sort <= 2; sort++) {
            due("nothing there", inn.depthsBy(1, sort, 99, 1), -11);
            due("nothing there", inn.depthsBy(1, sort, 0, 0), -11);
        }
        next("-13;");
        for (int sort = 0; sort <= 2; sort++) {
            inn.sheet(2, sort, 3);
            for (int other = 0; other <= 2; other++) {
                due(sort + " for " + other, inn.depthsBy(2, other, 99, 1), other == sort ? -12 : -13);
            }
        }
        next("-12: what stood ahead became so.");
        for (int at : Inns.outside(0, 37)) due("from " + at, inn.depthsBy(0, 2, at, 1), -12);
        due("from the last place", inn.depthsBy(0, 2, 39, 1), -12);
        due("from -3", inn.depthsBy(0, 2, -3, 2), -12);
        for (int at : new int[] {Integer.MIN_VALUE, Integer.MAX_VALUE, Integer.MAX_VALUE - 2}) {
            due("twelve from " + at, inn.depthsBy(0, 2, at, 12), -12);
        }
        due("none became so", inn.told(0, 0), 4);
        for (int size = 6; size <= 8; size++) {
            QuestionsInAnInn cut = Inns.someEvening();
            int[] nine = {0, 0, 1, 1, 1, 2, 2, 2, 3};
            Inns.fillInts(cut, 0, java.util.Arrays.copyOf(nine, size));
            due("the third is cut", cut.depthsBy(0, 2, 0, 3), -12);
            due("the first became so", cut.told(0, 0), 1);
            due("the second became so", cut.told(1, 1), 2);
            due("the third did not", cut.told(2, 2), 0);
            due("two", cut.depthsBy(0, 2, 0, 2), 2);
        }
        due("twelve of 40 from 4", inn.depthsBy(0, 2, 4, 12), 12);
        due("twelve of 40 from 5", inn.depthsBy(0, 2, 5, 12), -12);
    }

    private static void taken() {
        READ.promise(41);
        next("What lies at place i: 0 .. 7 QUESTIONS, 8 .. 14 PEOPLE, taken for 0 .. 5 one of that KIND (also of one that is one): the number;");
        QuestionsInAnInn inn = new QuestionsInAnInn();
        for (int kind = 0; kind < 6; kind++) inn.come(10 * kind + 3, 0, -1);
        Inns.ask(inn, 0, 3, 1, 8);
        String[] areAlso = {"0", "01", "02", "013", "024", "05"};
        for (int p = 0; p < 6; p++) {
            for (int kind = 0; kind < 6; kind++) {
                int want = areAlso[p].indexOf('0' + kind) >= 0 ? p : -13;
                due("KIND " + p + " taken for " + kind, inn.taken(8 + p, kind), want);
            }
        }
        next("6 a QUESTION: how much is ASKED.");
        due("the first", inn.taken(0, 6), 3);
        due("the second", inn.taken(1, 6), 8);
        next("BAD: kind;");
        for (int kind : Inns.outside(0, 6)) due("kind " + kind, inn.taken(15, kind), -2);
        next("-12: i;");
        for (int i : Inns.outside(0, 14)) {
            for (int kind = 0; kind <= 6; kind++) due("place " + i + " for " + kind, inn.taken(i, kind), -12);
        }
        next("-11: nothing lies there;");
        for (int kind = 0; kind <= 6; kind++) {
            due("no third QUESTION", inn.taken(2, kind), -11);
            due("no eighth QUESTION", inn.taken(7, kind), -11);
            due("no seventh of PEOPLE", inn.taken(14, kind), -11);
        }
        next("-13.");
        for (int kind = 0; kind < 6; kind++) due("a QUESTION for " + kind, inn.taken(1, kind), -13);
        for (int p = 0; p < 6; p++) due("one for a QUESTION", inn.taken(8 + p, 6), -13);
        for (int q = 2; q < 8; q++) inn.question(0, q);
        inn.come(0, 0, 0);
        due("the last QUESTION", inn.taken(7, 6), 7);
        due("the last one", inn.taken(14, 0), 6);
        due("the last one is no TEACHER", inn.taken(14, 1), -13);
    }
}
