/** For each promise ordinary calls, the edges that the document names, and wrong ones; all reckoned by hand. */
public final class PromiseTests {
    private static final long NO = -4611686018427387904L;
    private static final Checks CHECKS = new Checks("promises");

    public static void main(String[] args) {
        constants();
        promise1NewObject();
        promise2Count();
        promise3Feed();
        promise4Text();
        promise4Faults();
        promise4Open();
        promise5Force();
        promise6Asks();
        promise6Meaning();
        promise7Come();
        promise8Learn();
        promise9Sit();
        promise10Told();
        promise11Question();
        promise12AskedOf();
        promise13Lay();
        promise14Laid();
        promise15Answer();
        promise15Kinds();
        promise15Believes();
        promise16Score();
        promise17Evening();
        promise18Best();
        promise19Join();
        promise20Leave();
        promise21Cover();
        promise22Hire();
        promise23Price();
        promise24Close();
        promise25Good();
        promise26Alike();
        promise27Change();
        promise28Judge();
        promise29Whose();
        promise30Depth();
        promise31Laws();
        promise32Film();
        promise33Drawn();
        promise34Odds();
        promise35Image();
        promise36Back();
        promise37Sheet();
        promise38Cell();
        promise39Copy();
        promise40DepthsBy();
        promise41Taken();
        CHECKS.end();
    }

    private static void due(String call, long got, long want) {
        CHECKS.due(call, got, want);
    }

    // ---- what many tests begin with

    private static int write(QuestionsInAnInn inn, String text) {
        for (int i = 0; i < text.length(); i++) inn.feed(1, text.charAt(i), 0, 0, 0, 0);
        return inn.text();
    }

    private static QuestionsInAnInn withLaw(String text) {
        QuestionsInAnInn inn = new QuestionsInAnInn();
        force(inn, text);
        return inn;
    }

    private static void force(QuestionsInAnInn inn, String text) {
        int number = write(inn, text);
        CHECKS.isTrue("a text was refused: " + text + ": " + number, number > 0);
        inn.force(number);
    }

    /** A guest who knows topics 0, 1, 2 so deep. */
    private static int guest(QuestionsInAnInn inn, int loud, int at, int... deep) {
        int p = inn.come(0, loud, at);
        for (int topic = 0; topic < deep.length; topic++) inn.learn(p, topic, deep[topic]);
        return p;
    }

    private static void ask(QuestionsInAnInn inn, int... topicsAndDepths) {
        for (int i = 0; i < topicsAndDepths.length; i += 2) inn.question(topicsAndDepths[i], topicsAndDepths[i + 1]);
    }

    private static void fill(QuestionsInAnInn inn, int s, int... values) {
        inn.sheet(s, 2, values.length);
        for (int i = 0; i < values.length; i++) inn.cell(s, i, values[i]);
    }

    /**
     * Table 0: guests 0 (topic 0: 4) and 1 (topic 1: 6), has questions 0, 1, 2 right; table 1: guest 2 (topic 0: 7,
     * topic 1: 2), has 0 and 2; table 2: nobody; guest 3 (topic 1: 9) sits nowhere.
     */
    private static QuestionsInAnInn someEvening() {
        QuestionsInAnInn inn = new QuestionsInAnInn();
        guest(inn, 5, 0, 4);
        guest(inn, 3, 0, 0, 6);
        guest(inn, 4, 1, 7, 2);
        guest(inn, 8, -1, 0, 9);
        ask(inn, 0, 4, 1, 5, 2, 0);
        return inn;
    }

    // ---- the promises

    private static void constants() {
        due("NONE", QuestionsInAnInn.NONE, -1);
        due("BAD", QuestionsInAnInn.BAD, -2);
        due("STATE", QuestionsInAnInn.STATE, -3);
        due("FULL", QuestionsInAnInn.FULL, -4);
        due("NO", QuestionsInAnInn.NO, NO);
    }

    private static void promise1NewObject() {
        QuestionsInAnInn inn = new QuestionsInAnInn();
        due("people of a new one", inn.count(0), 0);
        due("questions of a new one", inn.count(1), 0);
        due("texts of a new one", inn.count(2), 1);
        due("the law of a new one", inn.count(3), 0);
        due("the tape of a new one", inn.count(4), 0);
        for (int t = 0; t < 3; t++) due("laid of a new one", inn.laid(t), -1);
        for (int s = 0; s < 4; s++) due("cell of a new one", inn.cell(s, 0, 0), -11);
        due("back of a new one", inn.back(), -3);
        due("told of a new one", inn.told(0, 0), -5);
        due("answer of a new one", inn.answer(0, 0, 0), -5);
        due("score of a new one", inn.score(2, 0), 0);
        due("evening of a new one", inn.evening(1), 0);
        QuestionsInAnInn other = someEvening();
        due("another one's people", other.count(0), 4);
        due("that is not shared", inn.count(0), 0);
    }

    private static void promise2Count() {
        QuestionsInAnInn inn = someEvening();
        force(inn, "weight 1;points 2;hires 3;");
        inn.feed(3, 97, 98, 99, 0, 0);
        due("count(0)", inn.count(0), 4);
        due("count(1)", inn.count(1), 3);
        due("count(2)", inn.count(2), 2);
        due("count(3)", inn.count(3), 1);
        due("count(4)", inn.count(4), 3);
        due("count(-1)", inn.count(-1), -2);
        due("count(5)", inn.count(5), -2);
        due("count(max)", inn.count(Integer.MAX_VALUE), -2);
    }

    private static void promise3Feed() {
        QuestionsInAnInn inn = new QuestionsInAnInn();
        due("feed of five", inn.feed(5, 0, 255, 32, 10, 97), 5);
        due("feed of two", inn.feed(2, 1, 2, 3, 4, 5), 7);
        due("feed of none", inn.feed(0, 1, 2, 3, 4, 5), -2);
        due("feed of six", inn.feed(6, 1, 2, 3, 4, 5), -2);
        due("a first that is none", inn.feed(1, -1, 0, 0, 0, 0), -2);
        due("a second that is none", inn.feed(1, 0, 256, 0, 0, 0), -2);
        due("a third that is none", inn.feed(1, 0, 0, -1, 0, 0), -2);
        due("a fourth that is none", inn.feed(1, 0, 0, 0, 256, 0), -2);
        due("a fifth that is none", inn.feed(1, 0, 0, 0, 0, 256), -2);
        due("the tape then", inn.count(4), 7);
        for (int i = 0; i < 30; i++) inn.feed(5, 32, 32, 32, 32, 32);
        due("the tape, nearly full", inn.count(4), 157);
        due("four more than stand", inn.feed(4, 32, 32, 32, 32, 32), -4);
        due("none came", inn.count(4), 157);
        due("BAD ahead of FULL", inn.feed(4, 32, 32, 32, 32, 300), -2);
        due("three more", inn.feed(3, 32, 32, 32, 32, 32), 160);
        due("one more than 160", inn.feed(1, 32, 32, 32, 32, 32), -4);
        inn.text();
        due("bytes come in their order", inn.feed(5, 'w', 'e', 'i', 'g', 'h'), 5);
        inn.feed(5, 't', '1', ';', 'p', 'o');
        inn.feed(5, 'i', 'n', 't', 's', '2');
        inn.feed(5, ';', 'h', 'i', 'r', 'e');
        inn.feed(4, 's', ' ', '3', ';', 'x');
        due("a text of them", inn.text(), 1);
    }

    private static void promise4Text() {
        QuestionsInAnInn inn = new QuestionsInAnInn();
        due("an empty one", inn.text(), -100);
        due("a first", write(inn, "weight 1 ; points 2 ; hires 3 ;"), 1);
        due("the tape then", inn.count(4), 0);
        due("a FAULT", write(inn, "weight ; "), -107);
        due("the tape then, too", inn.count(4), 0);
        due("a second, of no blanks", write(inn, "weight(1)<who;points-round;hires not topic;"), 2);
        due("a third, of many", write(inn, "\n weight\n1\n;points 0002 ;  hires 9999;\n \n"), 3);
        due("a fourth", write(inn, "weight 1 ; points 2 ; hires 3 ;"), 4);
        due("a fifth", write(inn, "weight 1 ; points 2 ; hires 3 ;"), 5);
        due("texts", inn.count(2), 6);
        due("the law stays", inn.count(3), 0);
        due("a sixth", write(inn, "weight 1 ; points 2 ; hires 3 ;"), -4);
        due("the tape stays", inn.count(4), 31);
        inn.feed(1, 'A', 0, 0, 0, 0);
        due("FULL ahead of the FAULT", inn.text(), -4);
        due("the tape stays", inn.count(4), 32);
    }

    private static void fault(String text, int place) {
        due("the FAULT of '" + text + "'", write(new QuestionsInAnInn(), text), -100 - place);
    }

    private static void promise4Faults() {
        fault("", 0);
        fault("  ", 2);
        fault("points 1 ; weight 1 ; hires 1 ;", 0);
        fault("weight 1", 8);
        fault("weight 1 \n ", 11);
        fault("weight 1 ; points 1 ; hires 1", 29);
        fault("weight 1 ; points 1 ; hires 1 ; ;", 32);
        fault("weight 1 ; points 1 ; hires 1 ; x", 32);
        fault("weight 1 ; points 1 ; hires 1 ;\t", 31);
        fault("weight 1 ; hires 1 ; points 1 ;", 11);
        fault("weight A ;", 7);
        fault("weight " + (char) 233 + " ;", 7);
        fault("weight  loudness ;", 8);
        fault("weight loud2 ;", 11);
        fault("weight whoz ;", 7);
        fault("weight xsked ;", 7);
        fault("weight dept ;", 7);
        fault("weight 12345 ;", 7);
        fault("weight 00001 ;", 7);
        fault("weight 1234 5 ;", 12);
        fault("weight 1 + ;", 11);
        fault("weight * 1 ;", 7);
        fault("weight + 1 ;", 7);
        fault("weight ( 1 ;", 11);
        fault("weight 1 ) ;", 9);
        fault("weight () ;", 8);
        fault("weight 1 < 2 < 3 ;", 13);
        fault("weight 1 = 2 = 3 ;", 13);
        fault("weight 1 + not 2 ;", 11);
        fault("weight - not 2 ;", 9);
        fault("weight 1 < not 2 ;", 11);
        fault("weight 1 or or 2 ;", 12);
        fault("weight hires ;", 7);
        fault("weight 1 . 2 ;", 9);
        fault("weight 1 > 2 ;", 9);
        fault("weightdepth ;", 0);
        fault("weight depth loud ;", 13);
        fault("weight 1 ; points 123456 ;", 18);
    }

    private static void stands(String e) {
        due("the number of " + e, write(new QuestionsInAnInn(), "weight " + e + " ; points 1 ; hires 1 ;"), 1);
    }

    private static void promise4Open() {
        stands("(((((1)))))");
        fault("weight ((((((1)))))) ;", 12);
        stands("not not not not not 1");
        fault("weight not not not not not not 1 ;", 27);
        stands("- - - - - 1");
        fault("weight ------1 ;", 12);
        stands("1 - - - - - - 1");
        fault("weight 1 - - - - - - - 1 ;", 21);
        stands("not (not (- 1))");
        fault("weight not (not (- (1))) ;", 19);
        fault("weight not (not (- - 1)) ;", 19);
        stands("(1) + (((((2)))))");
        stands("(not 1) and - - - - - 1 and not not not not (1)");
        stands("-(-(-1)) * -(-(-1))");
        fault("weight not (((( 1 < (2) )))) ;", 20);
    }

    private static void promise5Force() {
        QuestionsInAnInn inn = new QuestionsInAnInn();
        write(inn, "weight 1 ; points 2 ; hires 3 ;");
        due("force(1)", inn.force(1), 0);
        due("the law", inn.count(3), 1);
        due("what it says", inn.asks(1, 0, 0, 0, 0), 2);
        due("force(2)", inn.force(2), -2);
        due("force(-1)", inn.force(-1), -2);
        due("force(0)", inn.force(0), 1);
        due("what it says", inn.asks(1, 0, 0, 0, 0), 1);
        due("force(0) again", inn.force(0), 0);
    }

    private static void promise6Asks() {
        QuestionsInAnInn inn = new QuestionsInAnInn();
        due("the first text's weight", inn.asks(0, 73, 20, 12, 3), 47);
        due("the first text's points", inn.asks(1, 73, 20, 12, 3), 1);
        due("the first text's hires", inn.asks(2, 73, 20, 12, 3), 7);
        due("part -1", inn.asks(-1, 0, 0, 0, 0), -2);
        due("part 3", inn.asks(3, 0, 0, 0, 0), -2);
        due("depthAsked -1", inn.asks(0, -1, 0, 0, 0), -2);
        due("depthAsked 100", inn.asks(0, 100, 0, 0, 0), -2);
        due("loud -1", inn.asks(0, 0, -1, 0, 0), -2);
        due("loud 100", inn.asks(0, 0, 100, 0, 0), -2);
        due("topicRound -1", inn.asks(0, 0, 0, -1, 0), -2);
        due("topicRound 40", inn.asks(0, 0, 0, 40, 0), -2);
        due("who -1", inn.asks(0, 0, 0, 0, -1), -2);
        due("who 7", inn.asks(0, 0, 0, 0, 7), -2);
        due("the most of all", inn.asks(0, 99, 99, 39, 6), 207);
        inn = withLaw("weight depth * 100 + asked * 10 - loud ; points topic * 10 + round ; hires who * 9 + loud ;");
        due("weight of depth, asked, loud", inn.asks(0, 37, 5, 0, 0), 365);
        due("points of topic, round", inn.asks(1, 0, 0, 28, 0), 28);
        due("points of topic 3, round 0", inn.asks(1, 0, 0, 30, 0), 30);
        due("hires of who, loud", inn.asks(2, 0, 44, 0, 6), 98);
        due("hires bound above", inn.asks(2, 0, 99, 0, 6), 99);
        inn = withLaw("weight 0 - 5000 + loud * 1000 ; points 3 - loud ; hires 1000 * loud - 5 ;");
        due("weight bound below", inn.asks(0, 0, 1, 0, 0), -999);
        due("weight bound above", inn.asks(0, 0, 9, 0, 0), 999);
        due("weight within", inn.asks(0, 0, 5, 0, 0), 0);
        due("points bound below", inn.asks(1, 0, 9, 0, 0), 0);
        due("hires bound below", inn.asks(2, 0, 0, 0, 0), 0);
        due("hires bound above", inn.asks(2, 0, 1, 0, 0), 99);
    }

    private static void says(String e, int want) {
        QuestionsInAnInn inn = withLaw("weight " + e + " ; points 1 ; hires 1 ;");
        due(e, inn.asks(0, 73, 20, 12, 3), want);
    }

    /** At depth 7, asked 3, loud 20, topic 1, round 2, who 3. */
    private static void promise6Meaning() {
        says("depth", 7);
        says("asked", 3);
        says("loud", 20);
        says("topic", 1);
        says("round", 2);
        says("who", 3);
        says("0007", 7);
        says("2 + 3 * 4", 14);
        says("(2 + 3) * 4", 20);
        says("20 - 3 - 4", 13);
        says("20 - (3 - 4)", 21);
        says("2 * 3 * 4", 24);
        says("-3 + 5", 2);
        says("- - 3", 3);
        says("-2 * -3", 6);
        says("5 - -3", 8);
        says("-(2 + 3)", -5);
        says("1 < 2", 1);
        says("2 < 2", 0);
        says("3 < 2", 0);
        says("-1 < 0", 1);
        says("2 = 2", 1);
        says("2 = 3", 0);
        says("1 + 1 = 2", 1);
        says("1 + 1 < 1 * 2", 0);
        says("(1 < 2) + (2 < 3)", 2);
        says("not 0", 1);
        says("not 5", 0);
        says("not not 5", 1);
        says("not 1 < 2", 0);
        says("not 2 < 1", 1);
        says("not 0 and 0", 0);
        says("5 and 3", 1);
        says("1 and 2", 1);
        says("0 and 2", 0);
        says("5 and 0", 0);
        says("0 or 0", 0);
        says("0 or -4", 1);
        says("1 or 0 and 0", 1);
        says("(1 or 0) and 0", 0);
        says("0 and 0 or 1", 1);
        says("1 and 1 and 0", 0);
        says("0 or 0 or 1", 1);
        says("(7 or 0) * 5", 5);
        says("9999 * 9999 * 22", -999);
        says("(0 - 1024 * 1024 * 2048) - 1 < 0", 0);
        says("1024 * 1024 * 4096 + 9", 9);
        says("1 or 1 and 1 < 1 + 1 * (1 or 1 and 1 < 1 + 1 * (1 or 0 and 1 < 1 + 1 * (1 or 1 and 1 < 1 + 1 * (2))))", 1);
        says("0or 0and 0<0+2*(0or 0and 0<0+2*(0or 0and 0<0+2*(0or 0and 0<0+2*(0or 0and 0<0+2*(0or 1and 0<0+2*1)))))", 0);
    }

    private static void promise7Come() {
        QuestionsInAnInn inn = new QuestionsInAnInn();
        due("a first", inn.come(0, 0, -1), 0);
        due("a second", inn.come(59, 20, 2), 1);
        due("KIND 6", inn.come(60, 0, 0), -2);
        due("KIND below 0", inn.come(-1, 0, 0), -2);
        due("TOLD 21", inn.come(0, 21, 0), -2);
        due("TOLD -1", inn.come(0, -1, 0), -2);
        due("TABLE 3", inn.come(0, 0, 3), -2);
        due("TABLE -2", inn.come(0, 0, -2), -2);
        due("people", inn.count(0), 2);
        due("the second's TABLE", inn.told(1, 4), 2);
        for (int topic = 0; topic < 4; topic++) due("knows nothing yet", inn.told(1, topic), 0);
        for (int p = 2; p < 7; p++) due("a further one", inn.come(11, 1, 1), p);
        due("an eighth", inn.come(11, 1, 1), -4);
        due("BAD ahead of FULL", inn.come(11, 1, 5), -2);
        due("people", inn.count(0), 7);
    }

    private static void promise8Learn() {
        QuestionsInAnInn inn = someEvening();
        due("what it was", inn.learn(2, 0, 9), 7);
        due("what it became", inn.told(2, 0), 9);
        due("and back", inn.learn(2, 0, 0), 9);
        due("another topic stays", inn.told(2, 1), 2);
        due("another one stays", inn.told(0, 0), 4);
        due("no such one", inn.learn(4, 9, 99), -5);
        due("no such one", inn.learn(-1, 0, 0), -5);
        due("TOPIC 4", inn.learn(0, 4, 0), -7);
        due("TOPIC -1", inn.learn(0, -1, 0), -7);
        due("v 10", inn.learn(0, 0, 10), -7);
        due("v -1", inn.learn(0, 0, -1), -7);
        due("nothing changed", inn.told(0, 0), 4);
    }

    private static void promise9Sit() {
        QuestionsInAnInn inn = someEvening();
        due("where one sat", inn.sit(2, 2), 1);
        due("where one sits", inn.told(2, 4), 2);
        due("the TABLE has one more", inn.answer(2, 0, 0), 2);
        due("the other has none", inn.answer(1, 0, 0), -1);
        due("to none", inn.sit(2, -1), 2);
        due("from none", inn.sit(3, 0), -1);
        due("no such one", inn.sit(4, 3), -5);
        due("no such one", inn.sit(-1, 0), -5);
        due("TABLE 3", inn.sit(0, 3), -7);
        due("TABLE -2", inn.sit(0, -2), -7);
        due("nothing changed", inn.told(0, 4), 0);
    }

    private static void promise10Told() {
        QuestionsInAnInn inn = new QuestionsInAnInn();
        inn.come(47, 13, 2);
        inn.come(3, 0, -1);
        for (int topic = 0; topic < 4; topic++) inn.learn(0, topic, 5 + topic);
        for (int topic = 0; topic < 4; topic++) due("a TOPIC", inn.told(0, topic), 5 + topic);
        due("the TABLE", inn.told(0, 4), 2);
        due("KIND", inn.told(0, 5), 4);
        due("TOLD", inn.told(0, 6), 13);
        due("MORE", inn.told(0, 7), 7);
        due("no TABLE", inn.told(1, 4), -1);
        due("what 8", inn.told(0, 8), -7);
        due("what -1", inn.told(0, -1), -7);
        due("no such one", inn.told(2, 8), -5);
        due("no such one", inn.told(-1, 0), -5);
    }

    private static void promise11Question() {
        QuestionsInAnInn inn = new QuestionsInAnInn();
        due("TOPIC 4", inn.question(4, 0), -2);
        due("TOPIC -1", inn.question(-1, 0), -2);
        due("ASKED 10", inn.question(0, 10), -2);
        due("ASKED -1", inn.question(0, -1), -2);
        for (int q = 0; q < 8; q++) due("a question", inn.question(q % 4, 9 - q), q);
        due("a ninth", inn.question(0, 0), -4);
        due("BAD ahead of FULL", inn.question(4, 0), -2);
        due("questions", inn.count(1), 8);
    }

    private static void promise12AskedOf() {
        QuestionsInAnInn inn = someEvening();
        due("TOPIC", inn.askedOf(1, 0), 1);
        due("ASKED", inn.askedOf(1, 1), 5);
        due("TOPIC of another", inn.askedOf(2, 0), 2);
        due("ASKED of another", inn.askedOf(2, 1), 0);
        due("no such QUESTION", inn.askedOf(3, 9), -5);
        due("no such QUESTION", inn.askedOf(-1, 0), -5);
        due("what 2", inn.askedOf(0, 2), -7);
        due("what -1", inn.askedOf(0, -1), -7);
    }

    private static void promise13Lay() {
        QuestionsInAnInn inn = someEvening();
        due("none yet", inn.lay(0, 2), -1);
        due("the other one", inn.lay(0, 0), 2);
        due("another TABLE's", inn.lay(1, 0), -1);
        due("the first one's stays", inn.laid(0), 0);
        due("away", inn.lay(0, -1), 0);
        due("none", inn.lay(0, -1), -1);
        due("no such TABLE", inn.lay(3, 9), -5);
        due("no such TABLE", inn.lay(-1, 0), -5);
        due("no such QUESTION", inn.lay(1, 3), -7);
        due("no such QUESTION", inn.lay(1, -2), -7);
        due("nothing changed", inn.laid(1), 0);
    }

    private static void promise14Laid() {
        QuestionsInAnInn inn = someEvening();
        inn.lay(2, 1);
        due("none", inn.laid(0), -1);
        due("where it lies", inn.laid(2), 1);
        due("no such TABLE", inn.laid(3), -5);
        due("no such TABLE", inn.laid(-1), -5);
    }

    private static void promise15Answer() {
        QuestionsInAnInn inn = someEvening();
        due("whom TABLE 0 BELIEVES", inn.answer(0, 0, 0), 0);
        due("whom it BELIEVES of TOPIC 1", inn.answer(0, 1, 0), 1);
        due("RIGHT", inn.answer(0, 1, 1), 1);
        due("who KNOWS as much", inn.answer(0, 1, 2), 2);
        due("of all, too", inn.answer(0, 2, 2), 3);
        due("TABLE 1", inn.answer(1, 1, 0), 2);
        due("not RIGHT", inn.answer(1, 1, 1), 0);
        due("nobody KNOWS", inn.answer(1, 1, 2), 0);
        due("nobody sits there", inn.answer(2, 2, 0), -1);
        due("that is not RIGHT", inn.answer(2, 2, 1), 0);
        due("nobody", inn.answer(2, 2, 2), 0);
        due("no such TABLE", inn.answer(3, 0, 9), -5);
        due("no such TABLE", inn.answer(-1, 0, 0), -5);
        due("no such QUESTION", inn.answer(0, 3, 9), -5);
        due("no such QUESTION", inn.answer(0, -1, 0), -5);
        due("what 3", inn.answer(0, 0, 3), -7);
        due("what -1", inn.answer(0, 0, -1), -7);
    }

    /** How much and how loud one of a kind is, as seen by points of light: at which ASKED it is RIGHT till. */
    private static void knows(int kindMore, int deep, int topic, int round, int want) {
        for (int much = 0; much <= 9; much++) {
            QuestionsInAnInn inn = new QuestionsInAnInn();
            inn.come(kindMore, 6, 0);
            inn.learn(0, topic, deep);
            for (int q = 0; q < round; q++) inn.question(0, 0);
            inn.question(topic, much);
            String call = "KIND and MORE " + kindMore + ", DEEP " + deep + ", QUESTION " + round + ", ASKED " + much;
            due(call, inn.answer(0, round, 1), much <= want ? 1 : 0);
        }
    }

    /** How loud one of a kind is at a topic: he is believed before a guest (who comes later) so loud, not one louder. */
    private static void loud(int kindMore, int told, int topic, int want) {
        for (int other = 0; other <= 20; other++) {
            QuestionsInAnInn inn = withLaw("weight loud ; points 1 ; hires 1 ;");
            inn.come(kindMore, told, 0);
            inn.come(0, other, 0);
            inn.question(topic, 0);
            String call = "KIND and MORE " + kindMore + ", TOLD " + told + ", against " + other;
            due(call, inn.answer(0, 0, 0), other <= want ? 0 : 1);
        }
    }

    private static void promise15Kinds() {
        knows(3, 4, 3, 0, 4);
        knows(13, 4, 3, 0, 7);
        knows(17, 4, 3, 0, 7);
        knows(13, 4, 2, 0, 4);
        knows(13, 8, 3, 7, 9);
        knows(23, 4, 3, 0, 4);
        knows(33, 4, 3, 2, 7);
        knows(33, 4, 3, 3, 6);
        knows(33, 4, 3, 7, 5);
        knows(33, 4, 2, 7, 2);
        knows(33, 1, 2, 7, 0);
        knows(33, 9, 3, 6, 9);
        knows(43, 4, 3, 0, 6);
        knows(43, 4, 2, 0, 6);
        knows(43, 8, 2, 0, 9);
        knows(53, 4, 3, 2, 4);
        knows(53, 4, 3, 3, 9);
        knows(53, 4, 0, 4, 9);
        knows(50, 0, 0, 0, 9);
        knows(59, 0, 0, 7, 0);
        loud(3, 11, 0, 11);
        loud(13, 11, 3, 11);
        loud(23, 11, 0, 3);
        loud(23, 2, 0, 0);
        loud(33, 7, 0, 19);
        loud(33, 0, 3, 5);
        loud(47, 11, 3, 3);
        loud(43, 11, 0, 0);
        loud(53, 11, 3, 11);
    }

    private static void promise15Believes() {
        QuestionsInAnInn inn = new QuestionsInAnInn();
        guest(inn, 4, 0, 2);
        guest(inn, 4, 0, 2);
        guest(inn, 5, 1, 9);
        ask(inn, 0, 3);
        due("of like ones the first", inn.answer(0, 0, 0), 0);
        inn.learn(1, 0, 3);
        due("the one of most weight", inn.answer(0, 0, 0), 1);
        inn.sit(2, 0);
        due("the loudest", inn.answer(0, 0, 0), 2);
        force(inn, "weight 0 - loud - depth ; points 1 ; hires 1 ;");
        due("weights below 0", inn.answer(0, 0, 0), 0);
        force(inn, "weight who ; points 1 ; hires 1 ;");
        due("by number", inn.answer(0, 0, 0), 2);
        force(inn, "weight 2000 - who ; points 1 ; hires 1 ;");
        due("bound to like weights", inn.answer(0, 0, 0), 0);
        force(inn, "weight who * (asked = 3 and topic = 0 and round = 0) ; points 1 ; hires 1 ;");
        due("by asked, topic, round", inn.answer(0, 0, 0), 2);
        QuestionsInAnInn teachers = withLaw("weight depth ; points 1 ; hires 1 ;");
        teachers.come(0, 0, 0);
        teachers.come(10, 0, 0);
        teachers.learn(0, 0, 2);
        ask(teachers, 0, 3);
        due("depth is what one KNOWS", teachers.answer(0, 0, 0), 1);
    }

    private static void promise16Score() {
        QuestionsInAnInn inn = someEvening();
        due("SCORE", inn.score(0, 0), 3);
        due("of another", inn.score(1, 0), 2);
        due("of none", inn.score(2, 0), 0);
        due("those RIGHT", inn.score(0, 1), 7);
        due("those RIGHT", inn.score(1, 1), 5);
        due("none had it", inn.score(1, 2), 0);
        inn.sit(3, 1);
        due("a quiet one had it not", inn.score(1, 1), 6);
        due("the quiet one had it", inn.score(1, 2), 1);
        inn.lay(1, 2);
        due("twice as many", inn.score(1, 0), 3);
        inn.lay(1, 0);
        due("twice nothing", inn.score(1, 0), 2);
        force(inn, "weight loud * 2 + depth ; points asked * 10 + topic + round * 2 + depth + loud + who ; hires 1 ;");
        inn.lay(0, 1);
        due("points of asked, topic, round, twice", inn.score(0, 0), 40 + 2 * (50 + 1 + 2) + (0 + 2 + 4));
        force(inn, "weight 1 ; points 200 ; hires 1 ;");
        due("points bound", inn.score(1, 0), 99 * Integer.bitCount(inn.score(1, 1)) + 99 * (inn.score(1, 1) & 1));
        ask(inn, 3, 9);
        due("nobody KNOWS it", inn.score(2, 2) | inn.score(1, 2) & 8, 0);
        QuestionsInAnInn hard = new QuestionsInAnInn();
        guest(hard, 1, 0, 3);
        ask(hard, 0, 4, 0, 3);
        due("nobody KNOWS the first", hard.score(0, 2), 0);
        due("no such TABLE", inn.score(3, 9), -5);
        due("no such TABLE", inn.score(-1, 0), -5);
        due("what 3", inn.score(0, 3), -7);
        due("what -1", inn.score(0, -1), -7);
    }

    private static void promise17Evening() {
        QuestionsInAnInn inn = someEvening();
        due("the highest", inn.evening(0), 0);
        due("APART", inn.evening(1), 3);
        inn.sit(0, 2);
        inn.sit(1, 2);
        due("the highest", inn.evening(0), 2);
        inn.lay(1, 0);
        due("of like ones the first", inn.evening(0), 1);
        due("APART", inn.evening(1), 3);
        due("what 2", inn.evening(2), -2);
        due("what -1", inn.evening(-1), -2);
    }

    private static void promise18Best() {
        QuestionsInAnInn inn = withLaw("weight loud ; points asked ; hires 1 ;");
        guest(inn, 1, 0, 9, 4, 3);
        ask(inn, 1, 3, 0, 5, 2, 9, 0, 5);
        due("the dearest that is RIGHT, the first", inn.best(0, 0), 1);
        due("that SCORE", inn.best(0, 1), 18);
        inn.lay(0, 3);
        due("wherever it lies", inn.best(0, 0), 1);
        due("that SCORE", inn.best(0, 1), 18);
        due("it stays", inn.laid(0), 3);
        due("none", inn.best(1, 0), -1);
        due("as without", inn.best(1, 1), 0);
        force(inn, "weight loud ; points 0 ; hires 1 ;");
        due("not higher", inn.best(0, 0), -1);
        force(inn, "weight loud ; points 9 - asked ; hires 1 ;");
        due("the first of all", inn.best(0, 0), 0);
        due("no such TABLE", inn.best(3, 9), -5);
        due("no such TABLE", inn.best(-1, 0), -5);
        due("what 2", inn.best(0, 2), -7);
        due("what -1", inn.best(0, -1), -7);
    }

    private static void promise19Join() {
        QuestionsInAnInn inn = someEvening();
        due("for TABLE 2 the first of the highest", inn.join(2, 0), 0);
        due("that SCORE", inn.join(2, 1), 2);
        due("for TABLE 0 none", inn.join(0, 0), -1);
        due("as now", inn.join(0, 1), 3);
        due("for TABLE 1 who speaks of TOPIC 1", inn.join(1, 0), 1);
        due("that SCORE", inn.join(1, 1), 3);
        inn.learn(3, 0, 4);
        due("from another TABLE or none", inn.join(2, 0), 3);
        due("that SCORE", inn.join(2, 1), 3);
        inn.lay(2, 1);
        due("with its JOKER", inn.join(2, 1), 4);
        due("of like ones the first", inn.join(1, 0), 1);
        due("nobody moved", inn.told(3, 4), -1);
        due("no such TABLE", inn.join(3, 9), -5);
        due("no such TABLE", inn.join(-1, 0), -5);
        due("what 2", inn.join(0, 2), -7);
        due("what -1", inn.join(0, -1), -7);
    }

    private static void promise20Leave() {
        QuestionsInAnInn inn = new QuestionsInAnInn();
        guest(inn, 9, 0, 1);
        guest(inn, 3, 0, 5);
        guest(inn, 2, 0, 0);
        guest(inn, 1, 1, 5);
        ask(inn, 0, 4);
        due("the loud one", inn.leave(0, 0), 1);
        due("no less without", inn.leave(0, 1), 7);
        inn.sit(0, -1);
        due("nobody", inn.leave(0, 0), 0);
        due("but not the one who has it", inn.leave(0, 1), 4);
        due("the last one", inn.leave(1, 1), 0);
        due("nobody sits there", inn.leave(2, 1), 0);
        due("no such TABLE", inn.leave(3, 9), -5);
        due("no such TABLE", inn.leave(-1, 0), -5);
        due("what 2", inn.leave(0, 2), -7);
        due("what -1", inn.leave(0, -1), -7);
    }

    private static void promise21Cover() {
        QuestionsInAnInn inn = new QuestionsInAnInn();
        due("none needed", inn.cover(0), 0);
        guest(inn, 0, 0, 5, 0, 0);
        guest(inn, 0, 1, 0, 5, 0);
        guest(inn, 0, -1, 5, 0, 5);
        guest(inn, 0, 2, 5, 5, 0);
        ask(inn, 0, 5, 1, 5, 2, 5, 3, 5);
        due("how many", inn.cover(0), 2);
        due("the least as bits, of all who came", inn.cover(1), 6);
        inn.learn(3, 2, 5);
        due("one is fewer", inn.cover(0), 1);
        due("that one", inn.cover(1), 8);
        due("what 2", inn.cover(2), -2);
        due("what -1", inn.cover(-1), -2);
        QuestionsInAnInn hard = new QuestionsInAnInn();
        guest(hard, 0, 0, 3);
        ask(hard, 0, 9);
        due("what nobody KNOWS is not needed", hard.cover(1), 0);
    }

    private static void promise22Hire() {
        QuestionsInAnInn inn = withLaw("weight depth ; points 1 ; hires loud ;");
        guest(inn, 1, 0, 1);
        guest(inn, 8, -1, 5);
        guest(inn, 4, -1, 5);
        guest(inn, 4, -1, 5);
        guest(inn, 9, -1, 5, 5);
        guest(inn, 0, 1, 9, 9);
        ask(inn, 0, 4, 1, 4);
        due("the highest", inn.hire(0, 9, 0), 4);
        due("what that one costs", inn.hire(0, 9, 1), 9);
        due("by less coin the cheapest, then the first", inn.hire(0, 8, 0), 2);
        due("what that one costs", inn.hire(0, 8, 1), 4);
        due("as much as one has", inn.hire(0, 4, 0), 2);
        due("too little", inn.hire(0, 3, 0), -1);
        due("too little", inn.hire(0, 3, 1), -1);
        due("not higher than now", inn.hire(1, 999, 0), -1);
        due("nobody moved", inn.told(4, 4), -1);
        due("no such TABLE", inn.hire(3, 1000, 9), -5);
        due("no such TABLE", inn.hire(-1, 0, 0), -5);
        due("coin 1000", inn.hire(0, 1000, 0), -7);
        due("coin -1", inn.hire(0, -1, 0), -7);
        due("what 2", inn.hire(0, 0, 2), -7);
        due("what -1", inn.hire(0, 0, -1), -7);
        due("coin 999", inn.hire(0, 999, 1), 9);
        due("coin 0", inn.hire(0, 0, 0), -1);
        inn.sit(0, -1);
        due("the first of all", inn.hire(2, 1, 0), -1);
        inn.learn(0, 1, 4);
        due("the first of all", inn.hire(2, 1, 0), 0);
    }

    private static void promise23Price() {
        QuestionsInAnInn inn = someEvening();
        due("how DEEP at the deepest", inn.price(2), 7);
        due("how DEEP at the deepest", inn.price(3), 9);
        inn.come(13, 11, 0);
        inn.learn(4, 3, 4);
        due("DEEP, not what one KNOWS", inn.price(4), 4);
        inn.come(33, 11, 0);
        force(inn, "weight 1 ; points 1 ; hires topic * 10 + who + asked + round ;");
        due("the deepest topic and who", inn.price(3), 13);
        inn.learn(3, 2, 9);
        due("of like ones the first", inn.price(3), 13);
        inn.learn(3, 1, 8);
        due("the other one", inn.price(3), 23);
        due("who knows nothing", inn.price(5), 5);
        force(inn, "weight 1 ; points 1 ; hires loud ;");
        due("TOLD, not how LOUD", inn.price(5), 11);
        force(inn, "weight 1 ; points 1 ; hires loud - 12 ;");
        due("bound below", inn.price(5), 0);
        force(inn, "weight 1 ; points 1 ; hires loud * 12 ;");
        due("bound above", inn.price(5), 99);
        due("no such one", inn.price(6), -5);
        due("no such one", inn.price(-1), -5);
    }

    private static void promise24Close() {
        QuestionsInAnInn inn = withLaw("weight loud ; points asked ; hires 1 ;");
        guest(inn, 1, 0, 9, 0);
        guest(inn, 1, 1, 0, 9);
        guest(inn, 1, 2, 9, 9);
        ask(inn, 0, 5, 0, 2, 1, 7, 1, 2);
        due("of one question the nearest, the first", inn.close(1, 0), 2);
        due("how far", inn.close(1, 1), 2);
        due("of two the least as bits", inn.close(2, 0), 10);
        due("how far", inn.close(2, 1), 2);
        inn.lay(2, 1);
        due("with a JOKER", inn.close(1, 0), 8);
        due("a JOKER outside counts nothing", inn.close(1, 1), 2);
        inn.lay(2, -1);
        inn.lay(0, 1);
        due("with another's JOKER: 4, 0, 2 apart 4", inn.close(1, 0), 8);
        due("of two: 4, 2, 4", inn.close(2, 0), 10);
        due("of two: 4, 2, 4", inn.close(2, 1), 2);
        inn.lay(0, -1);
        inn.lay(2, 1);
        due("none", inn.close(0, 0), 0);
        due("none", inn.close(0, 1), 0);
        due("all", inn.close(4, 0), 15);
        due("all: 7, 9, 18", inn.close(4, 1), 11);
        due("there aren't so many", inn.close(5, 0), -1);
        due("there aren't so many", inn.close(8, 1), -1);
        due("nine", inn.close(9, 0), -2);
        due("below 0", inn.close(-1, 0), -2);
        due("BAD ahead of that -1", inn.close(5, 2), -2);
        due("what -1", inn.close(1, -1), -2);
        QuestionsInAnInn rounds = new QuestionsInAnInn();
        rounds.come(51, 1, 0);
        ask(rounds, 0, 0, 0, 9);
        due("a QUESTION keeps its number", rounds.close(1, 0), 1);
        due("TELEPHONE has it at number 1", rounds.score(0, 1), 3);
    }

    private static void promise25Good() {
        QuestionsInAnInn inn = someEvening();
        due("RIGHT at 0 (2 without) and 1 (1 without), not at 2 (0)", inn.good(0), 2);
        due("RIGHT at 0 (2 without), not at 1 (2), 2 (0)", inn.good(1), 1);
        inn.lay(1, 0);
        due("TABLE 1 has 3 now", inn.good(1), 0);
        inn.lay(0, 1);
        due("a JOKER's points are left out, too", inn.good(1), 0);
        inn.lay(0, 0);
        due("what it doubles elsewhere counts", inn.good(1), 1);
        due("TABLE 1 has 1 without", inn.good(0), 2);
        inn.lay(1, -1);
        inn.learn(0, 0, 3);
        due("RIGHT at 1 (1 without), not at 0 (2), 2 (0)", inn.good(0), 0);
        due("no such QUESTION", inn.good(3), -100000);
        due("no such QUESTION", inn.good(-1), -100000);
    }

    private static void promise26Alike() {
        QuestionsInAnInn inn = someEvening();
        due("0 and 1: none of one", inn.alike(0, 1, 0), 0);
        due("0 and 1: none of one", inn.alike(0, 1, 1), 1);
        due("0 and 2: none of three, lowest", inn.alike(0, 2, 1), 1);
        due("1 and 2: one of three", inn.alike(1, 2, 0), 1);
        due("1 and 2: one of three", inn.alike(2, 1, 1), 3);
        ask(inn, 3, 9);
        due("1 and 2: two of four", inn.alike(1, 2, 0), 1);
        due("1 and 2: two of four", inn.alike(1, 2, 1), 2);
        due("alike", inn.alike(1, 1, 0), NO);
        due("no such TABLE", inn.alike(3, 1, 0), NO);
        due("no such TABLE", inn.alike(-1, 1, 0), NO);
        due("no such TABLE", inn.alike(0, 3, 0), NO);
        due("no such TABLE", inn.alike(0, -1, 0), NO);
        due("part 2", inn.alike(0, 1, 2), NO);
        due("part -1", inn.alike(0, 1, -1), NO);
        due("no QUESTIONS", new QuestionsInAnInn().alike(0, 1, 0), NO);
        QuestionsInAnInn all = new QuestionsInAnInn();
        guest(all, 0, 0);
        guest(all, 0, 1);
        ask(all, 0, 0);
        due("all RIGHT at both", all.alike(0, 1, 0), NO);
        due("but not at the third", all.alike(0, 2, 0), 0);
    }

    private static void promise27Change() {
        QuestionsInAnInn inn = new QuestionsInAnInn();
        guest(inn, 1, 0, 9, 0);
        guest(inn, 1, 0, 0, 9);
        guest(inn, 1, 1, 0, 9);
        guest(inn, 0, 1, 0, 0);
        guest(inn, 0, 2, 9, 9);
        ask(inn, 0, 5, 1, 5);
        due("2, 1, 2", inn.evening(1), 1);
        due("none makes it less", inn.change(0), -1);
        due("as now", inn.change(1), 1);
        QuestionsInAnInn two = new QuestionsInAnInn();
        guest(two, 1, 0, 9);
        guest(two, 1, 1, 0);
        guest(two, 1, 2, 0);
        guest(two, 1, -1, 0);
        guest(two, 1, -1, 9);
        ask(two, 0, 5);
        due("one goes to none", two.change(0), 3);
        due("how far then", two.change(1), 0);
        two.learn(1, 0, 9);
        due("1, 1, 0: one of none to TABLE 2", two.change(0), 24);
        due("how far then", two.change(1), 0);
        two.learn(3, 0, 9);
        due("of like ones the first", two.change(0), 23);
        due("nobody moved", two.told(2, 4), 2);
        due("what 2", two.change(2), -2);
        due("what -1", two.change(-1), -2);
    }

    private static void promise28Judge() {
        QuestionsInAnInn inn = someEvening();
        fill(inn, 1, 1, 0, 1);
        due("as TABLE 1 has it", inn.judge(1, 1), -1);
        due("TABLE 0 has 1 otherwise", inn.judge(1, 0), 1);
        due("TABLE 2 has 0 otherwise", inn.judge(1, 2), 0);
        inn.cell(1, 2, 2);
        due("a 2 is otherwise", inn.judge(1, 1), 2);
        due("no such TABLE", inn.judge(1, 3), -5);
        due("no such TABLE", inn.judge(1, -1), -5);
        due("no such SHEET", inn.judge(4, 9), -2);
        due("no such SHEET", inn.judge(-1, 0), -2);
        due("a missing one", inn.judge(0, 9), -11);
        inn.sheet(0, 0, 4);
        due("a row too long", inn.judge(0, 9), -2);
        inn.sheet(0, 0, 2);
        due("a row too short", inn.judge(0, 0), -2);
        inn.sheet(0, 0, 3);
        due("bytes", inn.judge(0, 2), -1);
        inn.sheet(0, 1, 3);
        inn.cell(0, 1, 1);
        due("shorts", inn.judge(0, 2), 1);
    }

    private static void promise29Whose() {
        QuestionsInAnInn inn = someEvening();
        fill(inn, 3, 1, 0, 1);
        due("TABLE 1", inn.whose(3), 2);
        fill(inn, 3, 0, 0, 0);
        due("TABLE 2", inn.whose(3), 4);
        inn.sit(2, -1);
        due("TABLES 1 and 2", inn.whose(3), 6);
        fill(inn, 3, 0, 1, 1);
        due("none", inn.whose(3), 0);
        due("no such SHEET", inn.whose(4), -2);
        due("a missing one", inn.whose(2), -11);
        fill(inn, 3, 0, 1);
        due("a row too short", inn.whose(3), -2);
    }

    private static void promise30Depth() {
        QuestionsInAnInn inn = someEvening();
        fill(inn, 0, 1, 0, 1);
        due("4 .. 9 of TOPIC 0", inn.depth(0, 2, 0), 1008);
        due("0 .. 4 of TOPIC 1", inn.depth(0, 2, 1), 31);
        due("any of TOPIC 3", inn.depth(0, 2, 3), 1023);
        due("none at TABLE 0", inn.depth(0, 0, 3), 0);
        due("it stays", inn.told(2, 0), 7);
        due("what is told stays", inn.judge(0, 1), -1);
        due("one sits at none", inn.depth(0, 3, 9), -5);
        due("no such one", inn.depth(0, 4, 9), -5);
        due("no such one", inn.depth(0, -1, 0), -5);
        due("no such TOPIC", inn.depth(0, 2, 4), -7);
        due("no such TOPIC", inn.depth(0, 2, -1), -7);
        due("no such SHEET", inn.depth(4, 9, 9), -2);
        due("a missing one", inn.depth(1, 9, 9), -11);
        fill(inn, 0, 1, 0);
        due("a row too short", inn.depth(0, 9, 9), -2);
    }

    private static void promise31Laws() {
        QuestionsInAnInn inn = someEvening();
        inn.sit(3, 1);
        write(inn, "weight depth ; points 1 ; hires 1 ;");
        write(inn, "weight 0 - loud ; points 1 ; hires 1 ;");
        fill(inn, 0, 1, 0, 1);
        due("by the last one guest 2 is believed", inn.laws(0, 1), 4);
        fill(inn, 0, 1, 1, 1);
        due("by the deepest all is RIGHT", inn.laws(0, 1), 2);
        fill(inn, 0, 0, 1, 1);
        due("by the loudest", inn.laws(0, 1), 1);
        fill(inn, 0, 0, 0, 0);
        due("by all, of nobody", inn.laws(0, 2), 7);
        due("the law stays", inn.count(3), 0);
        due("no such TABLE", inn.laws(0, 3), -5);
        due("no such TABLE", inn.laws(0, -1), -5);
        due("no such SHEET", inn.laws(4, 9), -2);
        due("a missing one", inn.laws(1, 9), -11);
        fill(inn, 0, 1, 0);
        due("a row too short", inn.laws(0, 9), -2);
    }

    private static void promise32Film() {
        QuestionsInAnInn inn = someEvening();
        inn.sheet(2, 0, 7);
        due("film", inn.film(2, 1), 3);
        due("it is that of the TABLE", inn.whose(2), 2);
        due("it has three", inn.cell(2, 3, 0), -12);
        due("ints", inn.depthsBy(2, 2, 0, 0), 0);
        due("no bytes", inn.depthsBy(2, 0, 0, 0), -13);
        due("a missing one becomes so, too", inn.film(3, 0), 3);
        due("that of TABLE 0", inn.whose(3), 1);
        due("no such SHEET", inn.film(4, 9), -2);
        due("no such SHEET", inn.film(-1, 0), -2);
        due("no such TABLE", inn.film(2, 3), -5);
        due("no such TABLE", inn.film(2, -1), -5);
        due("it stays", inn.whose(2), 2);
    }

    /**
     * Seed 0: LOTS 48271, 182605794, 1291394886, 1914720637, modulo 3: 1, 0, 0, 1. So the first one knows topic 0 as
     * before, 1 and 2 one less, 3 as before.
     */
    private static void promise33Drawn() {
        QuestionsInAnInn inn = new QuestionsInAnInn();
        guest(inn, 0, 1, 5, 5, 5);
        ask(inn, 0, 5);
        due("topic 0 as before", inn.drawn(0), 1);
        inn.question(1, 5);
        inn.question(1, 4);
        due("still the highest", inn.drawn(0), 1);
        QuestionsInAnInn less = new QuestionsInAnInn();
        guest(less, 0, 1, 5, 5, 5);
        ask(less, 1, 5);
        due("topic 1 one less", less.drawn(0), 0);
        due("it changes nothing", less.told(0, 1), 5);
        due("nor who is RIGHT", less.score(1, 1), 1);
        QuestionsInAnInn last = new QuestionsInAnInn();
        guest(last, 0, 1, 5, 5, 5);
        ask(last, 3, 1);
        due("topic 3 as before", last.drawn(0), 0);
        for (int seed = 0; seed < 100000; seed += 9999) {
            due("by seed " + seed, last.drawn(seed), lotOf(seed + 1, 4) % 3 == 2 ? 1 : 0);
        }
        due("the second one's lots come behind", second().drawn(5), lotOf(6, 5) % 3 == 2 ? 2 : 0);
        due("seed 99999", last.drawn(99999), lotOf(100000, 4) % 3 == 2 ? 1 : 0);
        for (int p = 1; p < 7; p++) guest(last, 0, -1, p, p, p, p);
        last.drawn(3);
        for (int p = 1; p < 7; p++) due("it changes nobody", last.told(p, p % 4), p);
        due("seed -1", inn.drawn(-1), -2);
        due("seed 100000", inn.drawn(100000), -2);
        drawnBounds();
    }

    private static void drawnBounds() {
        QuestionsInAnInn least = new QuestionsInAnInn();
        least.come(10, 0, 1);
        ask(least, 0, 3);
        QuestionsInAnInn most = new QuestionsInAnInn();
        most.come(33, 0, 1);
        most.learn(0, 0, 9);
        ask(most, 3, 9, 3, 9, 3, 9, 3, 9, 3, 9, 3, 9, 0, 8);
        for (int seed = 0; seed < 20; seed++) {
            due("a TEACHER KNOWS 3 of DEEP 0 by seed " + seed, least.drawn(seed), 1);
            due("a LOUD ONE KNOWS 7 of DEEP 9 by seed " + seed, most.drawn(seed), 0);
        }
    }

    private static QuestionsInAnInn second() {
        QuestionsInAnInn inn = new QuestionsInAnInn();
        guest(inn, 0, -1);
        guest(inn, 0, 2, 4);
        ask(inn, 0, 5);
        return inn;
    }

    private static long lotOf(long first, int number) {
        long lot = first;
        for (int i = 0; i < number; i++) lot = lot * 48271 % 2147483647;
        return lot;
    }

    private static void promise34Odds() {
        QuestionsInAnInn inn = second();
        for (int[] range : new int[][] {{0, 30}, {7, 12}, {99999, 30}, {500, 1}}) {
            int won = 0;
            for (int seed = range[0]; seed < range[0] + range[1]; seed++) {
                if (lotOf(seed + 1, 5) % 3 == 2) won++;
            }
            int by = java.math.BigInteger.valueOf(won).gcd(java.math.BigInteger.valueOf(range[1])).intValue();
            due("above, from " + range[0], inn.odds(range[0], range[1], 2, 0), won / by);
            due("below, from " + range[0], inn.odds(range[0], range[1], 2, 1), range[1] / by);
        }
        due("never", inn.odds(0, 30, 1, 0), 0);
        due("never", inn.odds(0, 30, 1, 1), 1);
        due("seed -1", inn.odds(-1, 1, 0, 0), NO);
        due("seed 100000", inn.odds(100000, 1, 0, 0), NO);
        due("no seeds", inn.odds(0, 0, 0, 0), NO);
        due("31 seeds", inn.odds(0, 31, 0, 0), NO);
        due("no such TABLE", inn.odds(0, 1, 3, 0), NO);
        due("no such TABLE", inn.odds(0, 1, -1, 0), NO);
        due("part 2", inn.odds(0, 1, 0, 2), NO);
        due("part -1", inn.odds(0, 1, 0, -1), NO);
        due("it changes nothing", inn.told(1, 0), 4);
    }

    private static void promise35Image() {
        QuestionsInAnInn inn = new QuestionsInAnInn();
        due("of nobody", inn.image(), 0);
        due("back to nobody", inn.back(), 0);
        inn = someEvening();
        due("of four", inn.image(), 4);
        due("it changes nothing", inn.score(0, 0), 3);
        inn.learn(0, 0, 9);
        inn.sit(0, 2);
        due("a second one", inn.image(), 4);
        inn.sit(0, 1);
        inn.learn(0, 0, 1);
        inn.back();
        due("the second one holds", inn.told(0, 0), 9);
        due("the second one holds", inn.told(0, 4), 2);
    }

    private static void promise36Back() {
        due("there is none", someEvening().back(), -3);
        QuestionsInAnInn inn = someEvening();
        inn.lay(0, 1);
        inn.image();
        for (int topic = 0; topic < 4; topic++) inn.learn(3, topic, 8);
        inn.sit(3, 2);
        inn.sit(0, -1);
        guest(inn, 20, 0, 9);
        ask(inn, 3, 9);
        inn.lay(0, 3);
        inn.lay(2, 0);
        force(inn, "weight 1 ; points 9 ; hires 1 ;");
        inn.feed(2, 97, 98, 0, 0, 0);
        inn.sheet(1, 2, 3);
        inn.cell(1, 0, 1);
        due("how many there are", inn.back(), 4);
        due("people", inn.count(0), 4);
        due("questions", inn.count(1), 3);
        due("texts stay", inn.count(2), 2);
        due("the law", inn.count(3), 0);
        due("the tape stays", inn.count(4), 2);
        due("a SHEET stays", inn.cell(1, 2, 0), 1);
        due("how DEEP", inn.told(3, 0), 0);
        due("how DEEP", inn.told(3, 1), 9);
        due("how DEEP", inn.told(3, 3), 0);
        due("where one sits", inn.told(3, 4), -1);
        due("where another sits", inn.told(0, 4), 0);
        due("who came is none", inn.told(4, 0), -5);
        due("a QUESTION that came is none", inn.askedOf(3, 0), -5);
        due("a JOKER", inn.laid(0), 1);
        due("a JOKER that lay nowhere", inn.laid(2), -1);
        due("SCORE", inn.score(0, 0), 4);
        due("a new one", inn.come(17, 2, 1), 4);
        due("who knows nothing", inn.told(4, 0), 0);
        due("of that KIND", inn.told(4, 5), 1);
        due("back again", inn.back(), 4);
        due("people again", inn.count(0), 4);
    }

    private static void promise37Sheet() {
        QuestionsInAnInn inn = new QuestionsInAnInn();
        due("ints", inn.sheet(0, 2, 40), 1);
        due("the last", inn.cell(0, 39, 5), 1);
        due("behind it", inn.cell(0, 40, 5), -12);
        due("of none", inn.sheet(3, 1, 0), 1);
        due("the first of none", inn.cell(3, 0, 5), -12);
        due("no such SHEET", inn.sheet(4, 9, -1), -2);
        due("no such SHEET", inn.sheet(-1, 0, 0), -2);
        due("sort 3", inn.sheet(0, 3, -1), -2);
        due("sort -2", inn.sheet(0, -2, 0), -2);
        due("41", inn.sheet(0, 0, 41), -2);
        due("-1", inn.sheet(0, 0, -1), -14);
        due("least int", inn.sheet(0, 0, Integer.MIN_VALUE), -14);
        due("nothing changed", inn.cell(0, 39, 5), 1);
        due("missing, whatever n", inn.sheet(0, -1, 41), 1);
        due("nothing there", inn.cell(0, 0, 0), -11);
        due("missing again", inn.sheet(0, -1, -9), 1);
        inn = someEvening();
        fill(inn, 0, 1, 0, 1);
        inn.sheet(0, 2, 3);
        due("all 0 anew", inn.whose(0), 4);
    }

    private static void promise38Cell() {
        QuestionsInAnInn inn = new QuestionsInAnInn();
        guest(inn, 0, 0);
        inn.sheet(0, 0, 3);
        due("a byte", inn.cell(0, 2, 263), 1);
        due("its lowest 8 bits", inn.depthsBy(0, 0, 0, 1), 1);
        due("are 7", inn.told(0, 0), 7);
        inn.sheet(1, 1, 3);
        inn.cell(1, 2, 263);
        due("a short keeps 263", inn.depthsBy(1, 1, 0, 1), 0);
        inn.cell(1, 2, 65536 + 6);
        due("its lowest 16 bits", inn.depthsBy(1, 1, 0, 1), 1);
        due("are 6", inn.told(0, 0), 6);
        inn.sheet(2, 2, 3);
        inn.cell(2, 2, 65536 + 6);
        due("an int keeps it", inn.depthsBy(2, 2, 0, 1), 0);
        due("no such SHEET", inn.cell(4, 99, 0), -2);
        due("no such SHEET", inn.cell(-1, 0, 0), -2);
        due("nothing there", inn.cell(3, 99, 0), -11);
        due("a place outside", inn.cell(0, 3, 0), -12);
        due("a place outside", inn.cell(0, -1, 0), -12);
        due("a place far outside", inn.cell(0, Integer.MAX_VALUE, 0), -12);
    }

    private static void promise39Copy() {
        QuestionsInAnInn inn = someEvening();
        fill(inn, 0, 0, 1, 0, 1, 5);
        fill(inn, 1, 9, 9, 9);
        due("three", inn.copy(0, 1, 1, 0, 3), 3);
        due("they came", inn.whose(1), 2);
        due("to its own place, as they were", inn.copy(1, 0, 1, 1, 2), 2);
        due("1, 1, 0", inn.judge(1, 0), 2);
        fill(inn, 1, 0, 1, 1);
        due("downwards, too", inn.copy(1, 1, 1, 0, 2), 2);
        due("1, 1, 1", inn.whose(1), 1);
        due("none", inn.copy(0, 5, 1, 3, 0), 0);
        due("more than stand", inn.copy(0, 3, 1, 0, 3), -12);
        due("more than have room", inn.copy(0, 0, 1, 1, 3), -12);
        due("from below 0", inn.copy(0, -1, 1, 0, 1), -12);
        due("to below 0", inn.copy(0, 0, 1, -1, 1), -12);
        due("n below 0", inn.copy(0, 0, 1, 0, -1), -12);
        due("none from outside", inn.copy(0, 6, 1, 0, 0), -12);
        due("so many", inn.copy(0, 1, 1, 0, Integer.MAX_VALUE), -12);
        due("so far", inn.copy(0, Integer.MAX_VALUE, 1, Integer.MAX_VALUE, Integer.MAX_VALUE), -12);
        due("nothing changed", inn.whose(1), 1);
        inn.sheet(2, 1, 9);
        due("unlike sorts", inn.copy(0, 0, 2, 0, -1), -13);
        due("no such SHEET", inn.copy(4, 0, 3, 0, 1), -2);
        due("no such SHEET", inn.copy(3, 0, 4, 0, 1), -2);
        due("no such SHEET", inn.copy(0, 0, -1, 0, 1), -2);
        due("nothing there", inn.copy(3, 99, 2, 0, 1), -11);
        due("nothing there", inn.copy(2, 99, 3, 0, 1), -11);
        due("shorts to shorts", inn.copy(2, 0, 2, 3, 6), 6);
    }

    private static void promise40DepthsBy() {
        QuestionsInAnInn inn = someEvening();
        fill(inn, 0, 77, 0, 3, 9, 4, 0, 1, 1, 2, 8, 2, 4, 1);
        due("from 1 on four, one of nobody, one of no TOPIC", inn.depthsBy(0, 2, 1, 3), 2);
        due("the first", inn.told(0, 3), 9);
        due("the third", inn.told(1, 2), 8);
        fill(inn, 0, 0, 0, 1, 9, 9, 9, 1, 1, 2, 2, 2);
        due("the last is cut", inn.depthsBy(0, 2, 0, 4), -12);
        due("what stood ahead became so", inn.told(0, 0), 1);
        due("what stood ahead became so", inn.told(1, 1), 2);
        due("what was cut did not", inn.told(2, 2), 0);
        due("none", inn.depthsBy(0, 2, 5, 0), 0);
        due("from below 0", inn.depthsBy(0, 2, -1, 1), -12);
        due("from behind", inn.depthsBy(0, 2, 11, 1), -12);
        due("from far behind", inn.depthsBy(0, 2, Integer.MAX_VALUE, 12), -12);
        due("from far below", inn.depthsBy(0, 2, Integer.MIN_VALUE, 12), -12);
        due("n 13", inn.depthsBy(0, 2, 0, 13), -2);
        due("n -1", inn.depthsBy(0, 2, 0, -1), -2);
        due("sort 3", inn.depthsBy(0, 3, 0, 1), -2);
        due("sort -1", inn.depthsBy(0, -1, 0, 1), -2);
        due("no such SHEET", inn.depthsBy(4, 2, 0, 1), -2);
        due("no such SHEET", inn.depthsBy(-1, 2, 0, 1), -2);
        due("nothing there", inn.depthsBy(1, 2, 99, 1), -11);
        due("of another sort", inn.depthsBy(0, 1, 99, 1), -13);
        inn.sheet(2, 0, 36);
        due("twelve of bytes", inn.depthsBy(2, 0, 0, 12), 12);
        inn.cell(2, 35, 10);
        due("a depth of 10 is left out", inn.depthsBy(2, 0, 33, 1), 0);
        inn.cell(2, 35, -1);
        due("a depth of -1 is left out", inn.depthsBy(2, 0, 33, 1), 0);
    }

    private static void promise41Taken() {
        QuestionsInAnInn inn = new QuestionsInAnInn();
        for (int kind = 0; kind < 6; kind++) inn.come(10 * kind, 0, -1);
        ask(inn, 0, 3, 1, 8);
        String[] areAlso = {"0", "01", "02", "013", "024", "05"};
        for (int p = 0; p < 6; p++) {
            for (int kind = 0; kind < 6; kind++) {
                int want = areAlso[p].indexOf('0' + kind) >= 0 ? p : -13;
                due("KIND " + p + " taken for " + kind, inn.taken(8 + p, kind), want);
            }
            due("one taken for a QUESTION", inn.taken(8 + p, 6), -13);
        }
        due("a QUESTION", inn.taken(0, 6), 3);
        due("a QUESTION", inn.taken(1, 6), 8);
        for (int kind = 0; kind < 6; kind++) due("a QUESTION taken for " + kind, inn.taken(1, kind), -13);
        due("no QUESTION there", inn.taken(2, 6), -11);
        due("no QUESTION there", inn.taken(7, 0), -11);
        due("nobody there", inn.taken(14, 0), -11);
        due("place 15", inn.taken(15, 0), -12);
        due("place -1", inn.taken(-1, 0), -12);
        due("kind 7", inn.taken(15, 7), -2);
        due("kind -1", inn.taken(0, -1), -2);
    }
}
