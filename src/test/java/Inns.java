/** Inns that many tests begin with, and what can be seen of one. */
final class Inns {
    private Inns() { }

    /** The numbers next to a range and the ends of all ints. */
    static int[] outside(int least, int most) {
        return new int[] {least - 1, most + 1, Integer.MIN_VALUE, Integer.MAX_VALUE};
    }

    static void feed(QuestionsInAnInn inn, String text) {
        for (int i = 0; i < text.length(); i += 5) {
            int[] five = new int[5];
            int n = Math.min(5, text.length() - i);
            for (int k = 0; k < n; k++) five[k] = text.charAt(i + k);
            inn.feed(n, five[0], five[1], five[2], five[3], five[4]);
        }
    }

    static int write(QuestionsInAnInn inn, String text) {
        feed(inn, text);
        return inn.text();
    }

    static void force(QuestionsInAnInn inn, String text) {
        int number = write(inn, text);
        if (number <= 0) throw new IllegalStateException("a text was refused: " + text + ": " + number);
        inn.force(number);
    }

    static QuestionsInAnInn withLaw(String text) {
        QuestionsInAnInn inn = new QuestionsInAnInn();
        force(inn, text);
        return inn;
    }

    /** A law of that weight. */
    static QuestionsInAnInn weighing(String e) {
        return withLaw("weight " + e + " ; points 1 ; hires 1 ;");
    }

    /** A guest who knows topics 0, 1, .. so deep. */
    static int guest(QuestionsInAnInn inn, int loud, int at, int... deep) {
        int p = inn.come(0, loud, at);
        for (int topic = 0; topic < deep.length; topic++) inn.learn(p, topic, deep[topic]);
        return p;
    }

    static void ask(QuestionsInAnInn inn, int... topicsAndDepths) {
        for (int i = 0; i < topicsAndDepths.length; i += 2) inn.question(topicsAndDepths[i], topicsAndDepths[i + 1]);
    }

    /** A sheet becomes a row of these. */
    static void fill(QuestionsInAnInn inn, int s, int sort, int... values) {
        inn.sheet(s, sort, values.length);
        for (int i = 0; i < values.length; i++) inn.cell(s, i, values[i]);
    }

    static void fillInts(QuestionsInAnInn inn, int s, int... values) {
        fill(inn, s, 2, values);
    }

    /**
     * Table 0: guests 0 (topic 0: 4) and 1 (topic 1: 6), has questions 0, 1, 2 right; table 1: guest 2 (topic 0: 7,
     * topic 1: 2), has 0 and 2; table 2: nobody; guest 3 (topic 1: 9) sits nowhere.
     */
    static QuestionsInAnInn someEvening() {
        QuestionsInAnInn inn = new QuestionsInAnInn();
        guest(inn, 5, 0, 4);
        guest(inn, 3, 0, 0, 6);
        guest(inn, 4, 1, 7, 2);
        guest(inn, 8, -1, 0, 9);
        ask(inn, 0, 4, 1, 5, 2, 0);
        return inn;
    }

    /** How much one KNOWS: the highest ASKED at which a table of that one alone is RIGHT. */
    static int known(int kindMore, int deep, int topic, int round) {
        int much = -1;
        for (int asked = 0; asked <= 9; asked++) {
            QuestionsInAnInn inn = new QuestionsInAnInn();
            inn.come(kindMore, 6, 0);
            inn.learn(0, topic, deep);
            for (int q = 0; q < round; q++) inn.question(topic, 0);
            inn.question(topic, asked);
            if (inn.answer(0, round, 1) == 1) much = asked;
        }
        return much;
    }

    /** How LOUD one is: the highest weight of another that doesn't outweigh it. */
    static int loudness(int kindMore, int told, int topic) {
        int loud = -1;
        for (int other = 0; other <= 50; other++) {
            QuestionsInAnInn inn = weighing("(who=0)*loud+(who=1)*" + other);
            inn.come(kindMore, told, 0);
            inn.come(0, 0, 0);
            inn.question(topic, 0);
            if (inn.answer(0, 0, 0) == 0) loud = other;
        }
        return loud;
    }

    /** All that can be seen without a change: some 120 calls. */
    static String seen(QuestionsInAnInn inn) {
        StringBuilder all = new StringBuilder();
        for (int what = 0; what <= 4; what++) all.append(' ').append(inn.count(what));
        for (int p = 0; p < inn.count(0); p++) {
            all.append(" ; ").append(p);
            for (int what = 0; what <= 7; what++) all.append(' ').append(inn.told(p, what));
        }
        for (int q = 0; q < inn.count(1); q++) {
            all.append(" ; ").append(q).append(' ').append(inn.askedOf(q, 0)).append(' ').append(inn.askedOf(q, 1));
        }
        for (int t = 0; t < 3; t++) all.append(" ; ").append(inn.laid(t)).append(' ').append(inn.score(t, 0));
        for (int part = 0; part < 3; part++) all.append(" ; ").append(inn.asks(part, 73, 20, 12, 3));
        for (int s = 0; s < 4; s++) {
            all.append(" ; ").append(sortOf(inn, s)).append(' ').append(sizeOf(inn, s)).append(' ').append(inn.whose(s));
        }
        return all.toString();
    }

    /** -1 of a missing one. */
    static int sortOf(QuestionsInAnInn inn, int s) {
        for (int sort = 0; sort <= 2; sort++) {
            if (inn.depthsBy(s, sort, 0, 0) == 0) return sort;
        }
        return -1;
    }

    /** The most numbers that come to their own place; -1 of a missing one. */
    static int sizeOf(QuestionsInAnInn inn, int s) {
        if (inn.copy(s, 0, s, 0, 0) != 0) return -1;
        int least = 0;
        int above = 64;
        while (above - least > 1) {
            int n = (least + above) / 2;
            if (inn.copy(s, 0, s, 0, n) == n) {
                least = n;
            } else {
                above = n;
            }
        }
        return least;
    }
}
