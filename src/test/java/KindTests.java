/** The document's section 1 up to the TEXTS: what there is, and of KINDS. */
public final class KindTests {
    private static final long NO = -4611686018427387904L;
    private static final Reading READ = new Reading("kinds");

    public static void main(String[] args) {
        READ.part("TOPICS 0 .. 3.", "A TEXT is read from THE TAPE");
        topics();
        tables();
        people();
        peopleOfAKind();
        howDeep();
        whereOneSits();
        questions();
        asked();
        jokers();
        guests();
        teachers();
        shyOnes();
        loudOnes();
        quietOnes();
        telephones();
        kindsAbove();
        bounds();
        READ.end();
    }

    private static void next(String sentence) {
        READ.next(sentence);
    }

    private static void due(String call, long got, long want) {
        READ.due(call, got, want);
    }

    private static void topics() {
        next("TOPICS 0 .. 3.");
        QuestionsInAnInn inn = Inns.someEvening();
        Inns.fillInts(inn, 0, 1, 0, 1);
        for (int topic : new int[] {0, 3}) {
            due("learn of TOPIC " + topic, inn.learn(3, topic, 1), 0);
            due("told of TOPIC " + topic, inn.told(3, topic), 1);
            due("depth of TOPIC " + topic, inn.depth(0, 2, topic), topic == 0 ? 1008 : 1023);
        }
        for (int topic : Inns.outside(0, 3)) {
            due("learn of TOPIC " + topic, inn.learn(3, topic, 1), -7);
            due("depth of TOPIC " + topic, inn.depth(0, 2, topic), -7);
            due("question of TOPIC " + topic, inn.question(topic, 0), -2);
        }
        due("a QUESTION of TOPIC 3", inn.question(3, 0), 3);
        due("its TOPIC", inn.askedOf(3, 0), 3);
        due("a QUESTION of TOPIC 0", inn.question(0, 0), 4);
        due("its TOPIC", inn.askedOf(4, 0), 0);
    }

    private static void tables() {
        next("TABLES 0 .. 2.");
        QuestionsInAnInn inn = Inns.someEvening();
        Inns.fillInts(inn, 0, 1, 0, 1);
        for (int t : Inns.outside(0, 2)) {
            due("lay at " + t, inn.lay(t, 0), -5);
            due("laid at " + t, inn.laid(t), -5);
            due("answer at " + t, inn.answer(t, 0, 0), -5);
            due("score at " + t, inn.score(t, 0), -5);
            due("best at " + t, inn.best(t, 0), -5);
            due("join at " + t, inn.join(t, 0), -5);
            due("leave at " + t, inn.leave(t, 0), -5);
            due("hire at " + t, inn.hire(t, 0, 0), -5);
            due("alike of " + t, inn.alike(t, 1, 0), NO);
            due("alike with " + t, inn.alike(1, t, 0), NO);
            due("judge at " + t, inn.judge(0, t), -5);
            due("laws at " + t, inn.laws(0, t), -5);
            due("film at " + t, inn.film(0, t), -5);
            due("odds at " + t, inn.odds(0, 1, t, 0), NO);
            due("come to " + t, inn.come(0, 0, t), t == -1 ? 4 : -2);
            due("sit at " + t, inn.sit(0, t), t == -1 ? 0 : -7);
        }
        for (int t = 0; t <= 2; t++) {
            QuestionsInAnInn one = Inns.someEvening();
            for (int p = 0; p < 3; p++) one.sit(p, -1);
            due("come to " + t, one.come(0, 0, t), 4);
            due("sit at " + t, one.sit(0, t), -1);
            due("sit there again", one.sit(0, t), t);
            due("lay at " + t, one.lay(t, 0), -1);
            due("laid at " + t, one.laid(t), 0);
            due("answer at " + t, one.answer(t, 0, 0), 0);
            due("score at " + t, one.score(t, 0), 3);
            due("best at " + t, one.best(t, 1), 3);
            due("join at " + t, one.join(t, 1), 4);
            due("leave at " + t, one.leave(t, 1), 16);
            due("hire at " + t, one.hire(t, 999, 0), 1);
            due("alike with another", one.alike(t, (t + 1) % 3, 1), 3);
            due("film at " + t, one.film(1, t), 3);
            due("judge at " + t, one.judge(1, t), -1);
            due("laws at " + t, one.laws(1, t), 1);
            due("odds at " + t, one.odds(0, 1, t, 0), 1);
        }
    }

    private static void people() {
        next("PEOPLE are numbered from 0 on, 7 at most:");
        QuestionsInAnInn inn = new QuestionsInAnInn();
        for (int p = 0; p < 7; p++) {
            due("one who isn't there yet", inn.told(p, 5), -5);
            due("one who comes", inn.come(10, p, -1), p);
            due("how many", inn.count(0), p + 1);
            due("of that number", inn.told(p, 6), p);
        }
        due("an eighth", inn.come(10, 7, -1), -4);
        due("how many", inn.count(0), 7);
        Inns.fillInts(inn, 0);
        for (int p : Inns.outside(0, 6)) {
            due("learn of " + p, inn.learn(p, 0, 1), -5);
            due("sit of " + p, inn.sit(p, 0), -5);
            due("told of " + p, inn.told(p, 0), -5);
            due("price of " + p, inn.price(p), -5);
            due("depth of " + p, inn.depth(0, p, 0), -5);
        }
        due("the last one learns", inn.learn(6, 3, 9), 0);
        due("the last one's price", inn.price(6), 9);
        due("the last one sits", inn.sit(6, 0), -1);
        due("the last one's depth", inn.depth(0, 6, 3), 1023);
    }

    private static void peopleOfAKind() {
        next("of a KIND, with TOLD (0 .. 20), MORE (0 .. 9);");
        QuestionsInAnInn inn = new QuestionsInAnInn();
        for (int kindMore : Inns.outside(0, 59)) due("KIND and MORE " + kindMore, inn.come(kindMore, 0, 0), -2);
        for (int told : Inns.outside(0, 20)) due("TOLD " + told, inn.come(0, told, 0), -2);
        due("nobody came", inn.count(0), 0);
        int[][] edges = {{0, 0, 0, 0}, {9, 20, 0, 9}, {10, 19, 1, 0}, {49, 1, 4, 9}, {50, 0, 5, 0}, {59, 20, 5, 9}};
        for (int p = 0; p < edges.length; p++) {
            due("one of the edges", inn.come(edges[p][0], edges[p][1], -1), p);
            due("KIND", inn.told(p, 5), edges[p][2]);
            due("TOLD", inn.told(p, 6), edges[p][1]);
            due("MORE", inn.told(p, 7), edges[p][3]);
        }
    }

    private static void howDeep() {
        next("each knows each TOPIC so DEEP (0 .. 9; 0 at first),");
        QuestionsInAnInn inn = new QuestionsInAnInn();
        inn.come(33, 7, 1);
        for (int topic = 0; topic < 4; topic++) {
            due("at first", inn.told(0, topic), 0);
            for (int v : Inns.outside(0, 9)) due("DEEP " + v, inn.learn(0, topic, v), -7);
            due("still so", inn.learn(0, topic, 9), 0);
            due("the most", inn.told(0, topic), 9);
            due("the least", inn.learn(0, topic, 0), 9);
            due("it is that", inn.told(0, topic), 0);
            inn.learn(0, topic, topic + 5);
        }
        for (int topic = 0; topic < 4; topic++) due("each by itself", inn.told(0, topic), topic + 5);
    }

    private static void whereOneSits() {
        next("and sits at a TABLE, or at none.");
        QuestionsInAnInn inn = new QuestionsInAnInn();
        for (int at = -1; at <= 2; at++) {
            inn.come(0, 0, at);
            due("one who came to " + at, inn.told(at + 1, 4), at);
        }
        due("neither -2", inn.come(0, 0, -2), -2);
        due("nor 3", inn.come(0, 0, 3), -2);
        due("nobody came", inn.count(0), 4);
    }

    private static void questions() {
        next("QUESTIONS are numbered from 0 on, 8 at most:");
        QuestionsInAnInn inn = new QuestionsInAnInn();
        for (int q = 0; q < 8; q++) {
            due("one that isn't there yet", inn.askedOf(q, 1), -5);
            due("one that comes", inn.question(3, q), q);
            due("how many", inn.count(1), q + 1);
            due("of that number", inn.askedOf(q, 1), q);
        }
        due("a ninth", inn.question(3, 8), -4);
        due("how many", inn.count(1), 8);
        for (int q : Inns.outside(0, 7)) {
            due("askedOf " + q, inn.askedOf(q, 0), -5);
            due("answer to " + q, inn.answer(0, q, 0), -5);
            due("good " + q, inn.good(q), -100000);
            due("lay before " + q, inn.lay(0, q), q == -1 ? -1 : -7);
        }
        due("before the last", inn.lay(0, 7), -1);
        due("answer to the last", inn.answer(0, 7, 0), -1);
        due("good of the last", inn.good(7), 0);
    }

    private static void asked() {
        next("of a TOPIC, so much being ASKED (0 .. 9).");
        QuestionsInAnInn inn = new QuestionsInAnInn();
        for (int depth : Inns.outside(0, 9)) due("ASKED " + depth, inn.question(1, depth), -2);
        due("none came", inn.count(1), 0);
        due("the least", inn.question(1, 0), 0);
        due("it is so much", inn.askedOf(0, 1), 0);
        due("the most", inn.question(1, 9), 1);
        due("it is so much", inn.askedOf(1, 1), 9);
    }

    private static void jokers() {
        next("A TABLE's JOKER lies before a QUESTION, or before none (at first).");
        QuestionsInAnInn inn = new QuestionsInAnInn();
        for (int t = 0; t < 3; t++) due("at first", inn.laid(t), -1);
        Inns.ask(inn, 0, 0, 0, 0);
        for (int t = 0; t < 3; t++) due("when QUESTIONS came", inn.laid(t), -1);
        inn.lay(1, 1);
        for (int t = 0; t < 3; t++) due("each TABLE's by itself", inn.laid(t), t == 1 ? 1 : -1);
        due("before none", inn.lay(1, -1), 1);
        due("it lies there", inn.laid(1), -1);
    }

    private static void knows(int kindMore, int deep, int topic, int round, int want) {
        String who = "KIND and MORE " + kindMore + ", DEEP " + deep + ", TOPIC " + topic + ", QUESTION " + round;
        due(who + " KNOWS", Inns.known(kindMore, deep, topic, round), want);
    }

    private static void loud(int kindMore, int told, int topic, int want) {
        String who = "KIND and MORE " + kindMore + ", TOLD " + told + ", TOPIC " + topic;
        due(who + " is LOUD", Inns.loudness(kindMore, told, topic), want);
    }

    private static void guests() {
        next("KINDS: how much one KNOWS of a TOPIC, so DEEP (d), in QUESTION number r; how LOUD one is at that TOPIC.");
        knows(0, 4, 0, 0, 4);
        loud(0, 4, 0, 4);
        next("0 GUEST: d; TOLD.");
        for (int deep = 0; deep <= 9; deep++) knows(3, deep, 3, 7, deep);
        for (int told : new int[] {0, 1, 19, 20}) loud(3, told, 3, told);
    }

    private static void teachers() {
        next("1 TEACHER (a GUEST): KNOWS 3 more, if the TOPIC is MORE modulo 4.");
        for (int more = 0; more <= 9; more++) {
            for (int topic = 0; topic < 4; topic++) {
                int own = new int[] {0, 1, 2, 3, 0, 1, 2, 3, 0, 1}[more];
                knows(10 + more, 4, topic, 0, topic == own ? 7 : 4);
            }
        }
    }

    private static void shyOnes() {
        next("2 SHY (a GUEST): LOUD a third (cut).");
        int[] third = {0, 0, 0, 1, 1, 1, 2, 2, 2, 3, 3, 3, 4, 4, 4, 5, 5, 5, 6, 6, 6};
        for (int told = 0; told <= 20; told++) loud(20, told, 0, third[told]);
        loud(20, 20, 3, 6);
    }

    private static void loudOnes() {
        next("3 LOUD ONE (a TEACHER): LOUD twice as much, and 5;");
        loud(30, 0, 0, 5);
        loud(30, 1, 0, 7);
        loud(30, 7, 3, 19);
        loud(30, 20, 0, 45);
        next("KNOWS r by 3 (cut) less.");
        int[] less = {0, 0, 0, 1, 1, 1, 2, 2};
        for (int round = 0; round < 8; round++) {
            knows(30, 5, 1, round, 5 - less[round]);
            knows(30, 5, 0, round, 8 - less[round]);
        }
    }

    private static void quietOnes() {
        next("4 QUIET (a SHY): KNOWS 2 more;");
        for (int topic = 0; topic < 4; topic++) knows(41, 4, topic, 7, 6);
        knows(41, 0, 0, 0, 2);
        next("LOUD 0, if the TOPIC isn't MORE modulo 4.");
        for (int more = 0; more <= 9; more++) {
            for (int topic = 0; topic < 4; topic++) {
                int own = new int[] {0, 1, 2, 3, 0, 1, 2, 3, 0, 1}[more];
                loud(40 + more, 20, topic, topic == own ? 6 : 0);
            }
        }
    }

    private static void telephones() {
        next("5 TELEPHONE (a GUEST): KNOWS 9, if r is MORE or more.");
        knows(50, 2, 0, 0, 9);
        for (int round = 0; round < 8; round++) {
            knows(53, 2, 1, round, round < 3 ? 2 : 9);
            knows(57, 2, 3, round, round < 7 ? 2 : 9);
            knows(58, 2, 0, round, 2);
            knows(59, 2, 1, round, 2);
        }
    }

    private static void kindsAbove() {
        next("(Whatever isn't told is as of the KIND above;");
        loud(13, 11, 3, 11);
        knows(23, 4, 3, 7, 4);
        knows(33, 4, 3, 2, 7);
        knows(33, 4, 2, 2, 4);
        loud(43, 11, 3, 3);
        loud(43, 2, 3, 0);
        loud(53, 11, 3, 11);
        knows(59, 4, 1, 7, 4);
    }

    private static void bounds() {
        next("KNOWS 0 .. 9, else the bound.)");
        knows(10, 6, 0, 0, 9);
        knows(10, 7, 0, 0, 9);
        knows(10, 9, 0, 0, 9);
        knows(40, 7, 0, 0, 9);
        knows(40, 8, 0, 0, 9);
        knows(40, 9, 1, 0, 9);
        knows(30, 2, 1, 7, 0);
        knows(30, 1, 1, 7, 0);
        knows(30, 0, 1, 3, 0);
        knows(30, 7, 0, 7, 8);
        knows(30, 8, 0, 7, 9);
        knows(30, 9, 0, 7, 9);
        knows(30, 9, 1, 7, 7);
        QuestionsInAnInn inn = Inns.weighing("depth");
        inn.come(0, 0, 0);
        inn.come(10, 0, 0);
        for (int p = 0; p < 2; p++) inn.learn(p, 0, 9);
        inn.question(0, 9);
        due("12 weighs no more than 9", inn.answer(0, 0, 0), 0);
        QuestionsInAnInn low = Inns.weighing("0 - depth");
        low.come(0, 0, 0);
        low.come(30, 0, 0);
        Inns.ask(low, 1, 0, 1, 0, 1, 0, 1, 0);
        due("-1 weighs no less than 0", low.answer(0, 3, 0), 0);
    }
}
