/** Promises 1 to 14: a new object, the law, people, questions, jokers. */
public final class PromisesTo14Tests {
    private static final Reading READ = new Reading("promises 1 to 14");

    public static void main(String[] args) {
        newObject();
        count();
        feed();
        text();
        force();
        asks();
        come();
        learn();
        sit();
        told();
        question();
        askedOf();
        lay();
        laid();
        READ.end();
    }

    private static void next(String sentence) {
        READ.next(sentence);
    }

    private static void due(String call, long got, long want) {
        READ.due(call, got, want);
    }

    private static void newObject() {
        READ.promise(1);
        next("Nobody, no QUESTIONS.");
        QuestionsInAnInn inn = new QuestionsInAnInn();
        due("people", inn.count(0), 0);
        due("questions", inn.count(1), 0);
        due("texts", inn.count(2), 1);
        due("the law", inn.count(3), 0);
        due("the tape", inn.count(4), 0);
        due("told", inn.told(0, 0), -5);
        due("price", inn.price(0), -5);
        due("askedOf", inn.askedOf(0, 0), -5);
        due("good", inn.good(0), -100000);
        due("back", inn.back(), -3);
        due("an empty TAPE", inn.text(), -100);
        due("cover", inn.cover(1), 0);
        due("close of none", inn.close(0, 0), 0);
        due("close of one", inn.close(1, 0), -1);
        due("change", inn.change(0), -1);
        due("evening", inn.evening(0), 0);
        due("evening", inn.evening(1), 0);
        due("alike", inn.alike(0, 1, 0), QuestionsInAnInn.NO);
        due("drawn", inn.drawn(99999), 0);
        due("odds of TABLE 0", inn.odds(0, 30, 0, 0), 1);
        due("odds of TABLE 1", inn.odds(0, 30, 1, 0), 0);
        for (int t = 0; t < 3; t++) {
            due("answer", inn.answer(t, 0, 0), -5);
            due("laid", inn.laid(t), -1);
            due("score", inn.score(t, 0) + inn.score(t, 1) + inn.score(t, 2), 0);
            due("best", inn.best(t, 0), -1);
            due("best", inn.best(t, 1), 0);
            due("join", inn.join(t, 0), -1);
            due("join", inn.join(t, 1), 0);
            due("leave", inn.leave(t, 1), 0);
            due("hire", inn.hire(t, 999, 0), -1);
            due("hire", inn.hire(t, 999, 1), -1);
        }
        Inns.someEvening();
        due("another one's people are its own", inn.count(0), 0);
    }

    private static void count() {
        READ.promise(2);
        next("0 PEOPLE, 1 QUESTIONS, 2 TEXTS, 3 THE LAW, 4 bytes of THE TAPE.");
        QuestionsInAnInn inn = Inns.someEvening();
        Inns.force(inn, "weight 1;points 2;hires 3;");
        inn.feed(5, 97, 98, 99, 0, 0);
        due("PEOPLE", inn.count(0), 4);
        due("QUESTIONS", inn.count(1), 3);
        due("TEXTS", inn.count(2), 2);
        due("THE LAW", inn.count(3), 1);
        due("bytes of THE TAPE", inn.count(4), 5);
        next("BAD.");
        for (int what : Inns.outside(0, 4)) due("count(" + what + ")", inn.count(what), -2);
    }

    private static void feed() {
        READ.promise(3);
        next("The first n (1 .. 5) of five bytes (0 .. 255 each) come behind THE TAPE's, one by one: how many it has.");
        QuestionsInAnInn inn = new QuestionsInAnInn();
        for (int n = 1; n <= 5; n++) due("so many: " + n, inn.feed(n, 0, 255, 0, 255, 0), n * (n + 1) / 2);
        due("so many", inn.count(4), 15);
        due("bytes 255 and 0", inn.feed(5, 255, 0, 255, 0, 255), 20);
        QuestionsInAnInn ordered = new QuestionsInAnInn();
        due("five", ordered.feed(5, 'w', 'e', 'i', 'g', 'h'), 5);
        due("four", ordered.feed(4, 't', '1', ';', 'p', 'A'), 9);
        due("three", ordered.feed(3, 'o', 'i', 'n', 'A', 'A'), 12);
        due("two", ordered.feed(2, 't', 's', 'A', 'A', 'A'), 14);
        due("one", ordered.feed(1, '2', 'A', 'A', 'A', 'A'), 15);
        due("five", ordered.feed(5, ';', 'h', 'i', 'r', 'e'), 20);
        due("four", ordered.feed(4, 's', ' ', '3', ';', 'A'), 24);
        due("a TEXT of them", ordered.text(), 1);
        next("BAD: n, any of the five;");
        for (int n : Inns.outside(1, 5)) due("n " + n, inn.feed(n, 1, 2, 3, 4, 5), -2);
        for (int one : Inns.outside(0, 255)) {
            for (int n = 1; n <= 5; n++) {
                due("the first " + one, inn.feed(n, one, 0, 0, 0, 0), -2);
                due("the second " + one, inn.feed(n, 0, one, 0, 0, 0), -2);
                due("the third " + one, inn.feed(n, 0, 0, one, 0, 0), -2);
                due("the fourth " + one, inn.feed(n, 0, 0, 0, one, 0), -2);
                due("the fifth " + one, inn.feed(n, 0, 0, 0, 0, one), -2);
            }
        }
        due("none came", inn.count(4), 20);
        next("FULL: they have not all room (none comes).");
        for (int room = 0; room <= 4; room++) {
            QuestionsInAnInn full = new QuestionsInAnInn();
            Inns.feed(full, " ".repeat(160 - room));
            for (int n = room + 1; n <= 5; n++) due(n + " where is room for " + room, full.feed(n, 65, 65, 65, 65, 65), -4);
            due("none came", full.count(4), 160 - room);
            due("BAD ahead of FULL", full.feed(5, 0, 0, 0, 0, 256), -2);
            if (room > 0) due("as many as have room", full.feed(room, 32, 32, 32, 32, 32), 160);
            due("nothing but blanks", full.text(), -260);
        }
    }

    private static void text() {
        READ.promise(4);
        String good = "weight 1 ; points 2 ; hires 3 ;";
        next("THE TAPE, which is empty then (by a FAULT, too), is a TEXT: its number;");
        QuestionsInAnInn inn = new QuestionsInAnInn();
        due("the first", Inns.write(inn, good), 1);
        due("empty then", inn.count(4), 0);
        due("an empty one", inn.text(), -100);
        due("a FAULT", Inns.write(inn, "weight ; points 2 ;"), -107);
        due("empty then, too", inn.count(4), 0);
        for (int n = 2; n <= 5; n++) due("the next", Inns.write(inn, good), n);
        due("TEXTS", inn.count(2), 6);
        due("THE LAW stays", inn.count(3), 0);
        next("-100 less the place of its FAULT.");
        due("of nothing", new QuestionsInAnInn().text(), -100);
        due("at the first byte", Inns.write(new QuestionsInAnInn(), ";" + good), -100);
        due("at the second byte", Inns.write(new QuestionsInAnInn(), " ;" + good), -101);
        due("behind the last", Inns.write(new QuestionsInAnInn(), "weight" + " ".repeat(154)), -260);
        due("at the last", Inns.write(new QuestionsInAnInn(), "weight" + " ".repeat(153) + ";"), -259);
        next("FULL (ahead of the FAULT; then THE TAPE stays).");
        due("of nothing", inn.text(), -4);
        due("a seventh", Inns.write(inn, good), -4);
        due("it stays", inn.count(4), 31);
        due("again", inn.text(), -4);
        inn.feed(1, 'A', 0, 0, 0, 0);
        due("ahead of the FAULT", inn.text(), -4);
        due("it stays", inn.count(4), 32);
        due("TEXTS", inn.count(2), 6);
    }

    private static void force() {
        READ.promise(5);
        next("A TEXT is THE LAW: which was.");
        QuestionsInAnInn inn = new QuestionsInAnInn();
        Inns.write(inn, "weight 1 ; points 2 ; hires 3 ;");
        due("the same", inn.force(0), 0);
        due("another", inn.force(1), 0);
        due("THE LAW", inn.count(3), 1);
        due("by it", inn.asks(1, 0, 0, 0, 0), 2);
        due("the same", inn.force(1), 1);
        due("the first", inn.force(0), 1);
        due("by it", inn.asks(1, 0, 0, 0, 0), 1);
        next("BAD.");
        inn.force(1);
        for (int t : Inns.outside(0, 1)) due("force(" + t + ")", inn.force(t), -2);
        due("THE LAW stays", inn.count(3), 1);
    }

    private static void asks() {
        READ.promise(6);
        next("What part 0 weight, 1 points, 2 hires says");
        QuestionsInAnInn inn = Inns.withLaw("weight 0 - 1 - who ; points 20 + who ; hires 30 + who ;");
        due("weight", inn.asks(0, 0, 0, 0, 6), -7);
        due("points", inn.asks(1, 0, 0, 0, 6), 26);
        due("hires", inn.asks(2, 0, 0, 0, 6), 36);
        next("(depthAsked: 10 times depth, and asked, 0 .. 99; loud 0 .. 99; topicRound: 10 times topic, and round, 0 .. 39; who 0 .. 6).");
        asksOf("depth", 99, 0, 0, 0, 9);
        asksOf("asked", 99, 0, 0, 0, 9);
        asksOf("depth", 73, 0, 0, 0, 7);
        asksOf("asked", 73, 0, 0, 0, 3);
        asksOf("depth", 9, 0, 0, 0, 0);
        asksOf("asked", 9, 0, 0, 0, 9);
        asksOf("depth", 10, 0, 0, 0, 1);
        asksOf("asked", 10, 0, 0, 0, 0);
        asksOf("loud", 0, 99, 0, 0, 99);
        asksOf("loud", 99, 0, 39, 6, 0);
        asksOf("topic", 0, 0, 39, 0, 3);
        asksOf("round", 0, 0, 39, 0, 9);
        asksOf("topic", 0, 0, 9, 0, 0);
        asksOf("round", 0, 0, 9, 0, 9);
        asksOf("topic", 0, 0, 10, 0, 1);
        asksOf("round", 0, 0, 10, 0, 0);
        asksOf("who", 0, 0, 0, 6, 6);
        asksOf("who", 99, 99, 39, 0, 0);
        next("BAD.");
        for (int part : Inns.outside(0, 2)) due("part " + part, inn.asks(part, 0, 0, 0, 0), -2);
        for (int one : Inns.outside(0, 99)) due("depthAsked " + one, inn.asks(0, one, 0, 0, 0), -2);
        for (int one : Inns.outside(0, 99)) due("loud " + one, inn.asks(0, 0, one, 0, 0), -2);
        for (int one : Inns.outside(0, 39)) due("topicRound " + one, inn.asks(0, 0, 0, one, 0), -2);
        for (int who : Inns.outside(0, 6)) due("who " + who, inn.asks(0, 0, 0, 0, who), -2);
    }

    /** Each part says that NAME. */
    private static void asksOf(String name, int depthAsked, int loud, int topicRound, int who, int want) {
        QuestionsInAnInn inn = Inns.withLaw("weight " + name + " ; points " + name + " ; hires " + name + " ;");
        for (int part = 0; part < 3; part++) {
            due(name + " by part " + part, inn.asks(part, depthAsked, loud, topicRound, who), want);
        }
    }

    private static void come() {
        READ.promise(7);
        next("One of PEOPLE (kindMore: 10 times KIND, and MORE; loud: TOLD; at: the TABLE, or -1), who knows nothing yet: the number.");
        QuestionsInAnInn inn = new QuestionsInAnInn();
        int[][] edges = {{0, 0, -1}, {9, 20, 0}, {10, 1, 1}, {29, 19, 2}, {59, 20, 2}, {50, 0, 0}};
        for (int p = 0; p < edges.length; p++) {
            int[] one = edges[p];
            due("the number", inn.come(one[0], one[1], one[2]), p);
            due("KIND", inn.told(p, 5), one[0] / 10);
            due("MORE", inn.told(p, 7), one[0] % 10);
            due("TOLD", inn.told(p, 6), one[1]);
            due("TABLE", inn.told(p, 4), one[2]);
            for (int topic = 0; topic < 4; topic++) due("nothing yet", inn.told(p, topic), 0);
        }
        next("BAD; FULL.");
        for (int one : Inns.outside(0, 59)) due("kindMore " + one, inn.come(one, 0, 0), -2);
        for (int one : Inns.outside(0, 20)) due("loud " + one, inn.come(0, one, 0), -2);
        for (int one : Inns.outside(-1, 2)) due("at " + one, inn.come(0, 0, one), -2);
        due("nobody came", inn.count(0), 6);
        due("the last", inn.come(0, 0, 0), 6);
        due("FULL", inn.come(0, 0, 0), -4);
        due("BAD ahead of FULL", inn.come(0, 0, 3), -2);
        due("PEOPLE", inn.count(0), 7);
    }

    private static void learn() {
        READ.promise(8);
        next("How DEEP one knows a TOPIC becomes v (0 .. 9): what it was.");
        QuestionsInAnInn inn = Inns.someEvening();
        due("what it was", inn.learn(2, 0, 9), 7);
        due("what it became", inn.told(2, 0), 9);
        due("the same", inn.learn(2, 0, 9), 9);
        due("nothing", inn.learn(2, 0, 0), 9);
        due("what it became", inn.told(2, 0), 0);
        due("another TOPIC stays", inn.told(2, 1), 2);
        due("another one stays", inn.told(0, 0), 4);
        due("TOPIC 3 of the last one", inn.learn(3, 3, 1), 0);
        due("it truly becomes so", inn.score(1, 1), 4);
        next("-5: no such one;");
        for (int p : Inns.outside(0, 3)) due("learn of " + p, inn.learn(p, 9, 99), -5);
        next("-7: TOPIC, v.");
        for (int topic : Inns.outside(0, 3)) due("TOPIC " + topic, inn.learn(0, topic, 1), -7);
        for (int v : Inns.outside(0, 9)) due("v " + v, inn.learn(0, 0, v), -7);
        due("it stays", inn.told(0, 0), 4);
    }

    private static void sit() {
        READ.promise(9);
        next("One sits at a TABLE, or at none (-1): where one sat.");
        QuestionsInAnInn inn = Inns.someEvening();
        due("from 1 to 2", inn.sit(2, 2), 1);
        due("where one sits", inn.told(2, 4), 2);
        due("the TABLE has one", inn.answer(2, 0, 0), 2);
        due("the other one has none", inn.answer(1, 0, 0), -1);
        due("where one sits already", inn.sit(2, 2), 2);
        due("to none", inn.sit(2, -1), 2);
        due("from none to none", inn.sit(2, -1), -1);
        due("from none to 0", inn.sit(3, 0), -1);
        due("another one stays", inn.told(0, 4), 0);
        next("-5: no such one;");
        for (int p : Inns.outside(0, 3)) due("sit of " + p, inn.sit(p, 9), -5);
        next("-7: no such TABLE.");
        for (int t : Inns.outside(-1, 2)) due("at " + t, inn.sit(0, t), -7);
        due("it stays", inn.told(0, 4), 0);
    }

    private static void told() {
        READ.promise(10);
        next("Of one what 0 .. 3 how DEEP one knows that TOPIC, 4 the TABLE (-1), 5 KIND, 6 TOLD, 7 MORE.");
        QuestionsInAnInn inn = new QuestionsInAnInn();
        inn.come(47, 13, 2);
        inn.come(3, 0, -1);
        for (int topic = 0; topic < 4; topic++) inn.learn(0, topic, 6 + topic);
        for (int topic = 0; topic < 4; topic++) due("TOPIC " + topic, inn.told(0, topic), 6 + topic);
        int[] others = {2, 4, 13, 7};
        int[] ofTheLast = {-1, 0, 0, 3};
        for (int what = 4; what <= 7; what++) {
            due("what " + what, inn.told(0, what), others[what - 4]);
            due("what " + what + " of the last", inn.told(1, what), ofTheLast[what - 4]);
        }
        next("-5: no such one;");
        for (int p : Inns.outside(0, 1)) due("told of " + p, inn.told(p, 9), -5);
        next("-7: what.");
        for (int what : Inns.outside(0, 7)) due("what " + what, inn.told(1, what), -7);
    }

    private static void question() {
        READ.promise(11);
        next("A QUESTION (TOPIC, ASKED): its number.");
        QuestionsInAnInn inn = new QuestionsInAnInn();
        for (int q = 0; q < 7; q++) {
            due("its number", inn.question(q % 4, 9 - q), q);
            due("TOPIC", inn.askedOf(q, 0), q % 4);
            due("ASKED", inn.askedOf(q, 1), 9 - q);
        }
        next("BAD; FULL.");
        for (int topic : Inns.outside(0, 3)) due("TOPIC " + topic, inn.question(topic, 0), -2);
        for (int depth : Inns.outside(0, 9)) due("ASKED " + depth, inn.question(0, depth), -2);
        due("none came", inn.count(1), 7);
        due("the last", inn.question(3, 0), 7);
        due("FULL", inn.question(0, 0), -4);
        due("BAD ahead of FULL", inn.question(4, 0), -2);
        due("QUESTIONS", inn.count(1), 8);
    }

    private static void askedOf() {
        READ.promise(12);
        next("Of a QUESTION what 0 TOPIC, 1 ASKED.");
        QuestionsInAnInn inn = Inns.someEvening();
        int[][] all = {{0, 4}, {1, 5}, {2, 0}};
        for (int q = 0; q < 3; q++) {
            for (int what = 0; what <= 1; what++) due("of " + q + " what " + what, inn.askedOf(q, what), all[q][what]);
        }
        next("-5: no such QUESTION;");
        for (int q : Inns.outside(0, 2)) due("of " + q, inn.askedOf(q, 9), -5);
        next("-7: what.");
        for (int what : Inns.outside(0, 1)) due("what " + what, inn.askedOf(2, what), -7);
    }

    private static void lay() {
        READ.promise(13);
        next("A TABLE's JOKER truly lies before a QUESTION, or before none (-1): before which it lay (-1).");
        QuestionsInAnInn inn = Inns.someEvening();
        due("before none yet", inn.lay(0, 2), -1);
        due("truly", inn.score(0, 0), 4);
        due("before another", inn.lay(0, 0), 2);
        due("before the same", inn.lay(0, 0), 0);
        due("another TABLE's", inn.lay(2, 0), -1);
        due("the first one's stays", inn.laid(0), 0);
        due("before none", inn.lay(0, -1), 0);
        due("truly", inn.score(0, 0), 3);
        due("before none again", inn.lay(0, -1), -1);
        next("-5: no such TABLE;");
        for (int t : Inns.outside(0, 2)) due("of " + t, inn.lay(t, 9), -5);
        next("-7: no such QUESTION.");
        for (int q : Inns.outside(-1, 2)) due("before " + q, inn.lay(2, q), -7);
        due("it stays", inn.laid(2), 0);
    }

    private static void laid() {
        READ.promise(14);
        next("Before which it lies (-1: none).");
        QuestionsInAnInn inn = Inns.someEvening();
        inn.lay(2, 1);
        inn.lay(1, 0);
        due("none", inn.laid(0), -1);
        due("of 1", inn.laid(1), 0);
        due("of 2", inn.laid(2), 1);
        next("-5: no such TABLE.");
        for (int t : Inns.outside(0, 2)) due("of " + t, inn.laid(t), -5);
    }
}
