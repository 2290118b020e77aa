/** The rest of the document's section 1: TEXTS, how they are read, where their FAULT is, what they say. */
public final class TextTests {
    private static final Reading READ = new Reading("texts");
    private static final String TOKENS = "7 depth asked loud topic round who or and not weight points hires ( ) ; + - * < =";
    private static final String ONES = "7 depth asked loud topic round who - (";
    private static final String BEGIN = ONES + " not";
    private static final String JOINING = "or and + - *";
    private static final String BEHIND = JOINING + " < =";

    public static void main(String[] args) {
        READ.part("A TEXT is read from THE TAPE", "At a QUESTION a TABLE BELIEVES");
        tape();
        words();
        numbers();
        signs();
        blanks();
        texts();
        sumsOfLogic();
        sums();
        ones();
        names();
        wrapping();
        truth();
        firstToken();
        tooEarly();
        noTokens();
        tooManyOpen();
        tillTheyEnd();
        howManyTexts();
        bounds();
        ofOneAtAQuestion();
        ofAQuestion();
        ofOne();
        READ.end();
    }

    private static void next(String sentence) {
        READ.next(sentence);
    }

    private static void due(String call, long got, long want) {
        READ.due(call, got, want);
    }

    private static String textOf(String e) {
        return "weight " + e + " ; points 1 ; hires 1 ;";
    }

    private static void stands(String e) {
        due(e + " stands", Inns.write(new QuestionsInAnInn(), textOf(e)), 1);
    }

    private static void fault(String text, int place) {
        due("the FAULT of '" + text + "'", Inns.write(new QuestionsInAnInn(), text), -100 - place);
    }

    /** What E says of depth 7, asked 3, loud 20, topic 1, round 2, who 3. */
    private static void says(String e, int want) {
        due(e, Inns.weighing(e).asks(0, 73, 20, 12, 3), want);
    }

    private static boolean isOf(String token, String tokens) {
        return (" " + tokens + " ").contains(" " + token + " ");
    }

    /** Behind those words just these tokens can stand, and the text can't end. */
    private static void follow(String words, String tokens) {
        fault(words, words.length());
        for (String token : TOKENS.split(" ")) {
            String text = words + " " + token;
            fault(text, isOf(token, tokens) ? text.length() : words.length() + 1);
        }
    }

    private static String padded(String head, String tail, int size) {
        return head + " ".repeat(size - head.length() - tail.length()) + tail;
    }

    private static void tape() {
        next("A TEXT is read from THE TAPE (160 bytes at most).");
        QuestionsInAnInn inn = new QuestionsInAnInn();
        Inns.feed(inn, padded("weight 1 ; points 1 ; hires ", "7 ;", 160));
        due("bytes", inn.count(4), 160);
        due("one more", inn.feed(1, 32, 0, 0, 0, 0), -4);
        due("a TEXT of 160 bytes", inn.text(), 1);
        inn.force(1);
        due("which says to the last", inn.asks(2, 0, 0, 0, 0), 7);
        fault(padded("weight 1 ; points 1 ; hires ", "7;x", 160), 159);
        fault(padded("weight 1 ; points 1 ; hires ", "7", 160), 160);
        StringBuilder ones = new StringBuilder("weight 1");
        while (ones.length() < 136) ones.append("+1");
        due("as many steps as can be", Inns.write(inn, ones + ";points 1;hires 1;"), 2);
        inn.force(2);
        due("which counts", inn.asks(0, 0, 0, 0, 0), 65);
    }

    private static void words() {
        next("TOKENS, each as long as can be: WORDS (as many letters a .. z as stand there),");
        fault("weightdepth ;", 0);
        fault("weight loudness ;", 7);
        fault("weight notdepth ;", 7);
        fault("weight depthor 1 ;", 7);
        fault("weight whoa ;", 7);
        fault("weight whoz ;", 7);
        fault("weight awho ;", 7);
        fault("weight zwho ;", 7);
        fault("weight who" + (char) ('a' - 1) + " ;", 10);
        fault("weight who" + (char) ('z' + 1) + " ;", 10);
        fault("weight whoO ;", 10);
        fault("weight wh ;", 7);
        fault("weight loud2 ;", 11);
        says("1or 0", 1);
        says("1and2", 1);
        says("not(depth)", 0);
        due("a KEY and a NUMBER", Inns.write(new QuestionsInAnInn(), "weight1;points2;hires3;"), 1);
    }

    private static void numbers() {
        next("NUMBERS (as many digits as stand there; more than 4 are too long),");
        says("0", 0);
        says("0000", 0);
        says("0012", 12);
        says("9999 - 9000", 999);
        says("1234 - 1230", 4);
        says("5678 = 5000 + 600 + 70 + 8", 1);
        fault("weight 00000 ;", 7);
        fault("weight 10000 ;", 7);
        fault("weight 4294967297 ;", 7);
        fault("weight 123456789012345678901234567890 ;", 7);
        fault("weight 1234 5 ;", 12);
        fault("weight 1" + (char) ('0' - 1) + "1 ;", 8);
        fault("weight 1" + (char) ('9' + 1) + "1 ;", 8);
        fault("weight 1who ;", 8);
    }

    private static void signs() {
        next("SIGNS ( ) ; + - * < = ;");
        says("(1)+2*3-4<5", 1);
        says("3*(1+2)=9-0", 1);
        for (int sign = 0; sign <= 255; sign++) {
            String token = String.valueOf((char) sign);
            if (isOf(token, "+ - * < =") || sign >= '0' && sign <= '9') {
                due("1 and 1 with " + sign + " between", Inns.write(new QuestionsInAnInn(), textOf("1" + token + "1")), 1);
            } else {
                fault(textOf("1" + token + "1"), isOf(token, ";") || sign == 32 || sign == 10 ? 9 : 8);
            }
        }
    }

    private static void blanks() {
        next("blanks (32, 10) may stand between.");
        for (int sign = 0; sign <= 255; sign++) {
            String token = String.valueOf((char) sign);
            boolean stands = sign == 32 || sign == 10;
            due(sign + " at first", Inns.write(new QuestionsInAnInn(), token + textOf("1")), stands ? 1 : -100);
            int last = textOf("1").length();
            due(sign + " at last", Inns.write(new QuestionsInAnInn(), textOf("1") + token), stands ? 1 : -100 - last);
        }
        due("many", Inns.write(new QuestionsInAnInn(), "\n weight \n\n 1\n;points  1 ;hires\n1 \n; \n"), 1);
        due("none", Inns.write(new QuestionsInAnInn(), "weight(1);points-1;hires(1);"), 1);
        fault("we ight 1 ;", 0);
        fault("weight 1\n2 ;", 9);
    }

    private static void texts() {
        next("TEXT: weight E ; points E ; hires E ;");
        follow("", "weight");
        follow("weight", BEGIN);
        follow("weight 1", BEHIND + " ;");
        follow("weight 1 ;", "points");
        follow("weight 1 ; points", BEGIN);
        follow("weight 1 ; points 2", BEHIND + " ;");
        follow("weight 1 ; points 2 ;", "hires");
        follow("weight 1 ; points 2 ; hires", BEGIN);
        follow("weight 1 ; points 2 ; hires 3 + ( 4", BEHIND + " )");
        String whole = "weight 1 ; points 2 ; hires 3 ;";
        due("the whole", Inns.write(new QuestionsInAnInn(), whole), 1);
        for (String token : TOKENS.split(" ")) fault(whole + " " + token, 32);
        QuestionsInAnInn inn = Inns.withLaw(whole);
        for (int part = 0; part < 3; part++) due("part " + part, inn.asks(part, 0, 0, 0, 0), part + 1);
    }

    private static void sumsOfLogic() {
        next("E: AND { or AND }.");
        follow("weight 1 or", BEGIN);
        follow("weight 1 or 2", BEHIND + " ;");
        says("0 or 0", 0);
        says("0 or 0 or 0 or 4", 1);
        says("1 or 1 and 0", 1);
        next("AND: NOT { and NOT }.");
        follow("weight 1 and", BEGIN);
        follow("weight 1 and 2", BEHIND + " ;");
        says("1 and 2 and 3 and 4", 1);
        says("1 and 2 and 0 and 4", 0);
        says("0 and 0 or 1", 1);
        says("0 and (0 or 1)", 0);
        next("NOT: not NOT, or SUM, perhaps < or = and a SUM.");
        follow("weight not", BEGIN);
        follow("weight not not", BEGIN);
        follow("weight not 1", BEHIND + " ;");
        follow("weight 1 <", ONES);
        follow("weight 1 =", ONES);
        follow("weight 1 < 2", JOINING + " ;");
        follow("weight 1 = 2", JOINING + " ;");
        follow("weight not 1 < 2", JOINING + " ;");
        follow("weight 1 < 2 and 3", BEHIND + " ;");
        follow("weight 1 = 2 or 3", BEHIND + " ;");
        says("not 2 < 1", 1);
        says("not 0 and 0", 0);
        says("not not 3", 1);
        says("1 + 1 = 2", 1);
    }

    private static void sums() {
        next("SUM: TERM { + or - TERM }.");
        follow("weight 1 +", ONES);
        follow("weight 1 -", ONES);
        follow("weight 1 + 2", BEHIND + " ;");
        says("20 - 3 - 4", 13);
        says("20 - 3 + 4", 21);
        says("2 + 3 * 4 - 1", 13);
        next("TERM: ONE { * ONE }.");
        follow("weight 1 *", ONES);
        follow("weight 1 * 2", BEHIND + " ;");
        says("2 * 3 * 4 * 5", 120);
        says("(2 + 3) * 4", 20);
    }

    private static void ones() {
        next("ONE: a NUMBER, a NAME, - ONE, ( E ).");
        follow("weight -", ONES);
        follow("weight - -", ONES);
        follow("weight who", BEHIND + " ;");
        follow("weight - 1", BEHIND + " ;");
        follow("weight (", BEGIN);
        follow("weight ( 1", BEHIND + " )");
        follow("weight ( 1 < 2", JOINING + " )");
        follow("weight ( 1 )", BEHIND + " ;");
        follow("weight ( ( 1 )", BEHIND + " )");
        says("-3 + 5", 2);
        says("- - 3", 3);
        says("-2 * -3", 6);
        says("-(2 + 3)", -5);
        says("(0 or 1) + (1 < 2)", 2);
    }

    private static void names() {
        next("NAMES: depth asked loud topic round who.");
        says("depth", 7);
        says("asked", 3);
        says("loud", 20);
        says("topic", 1);
        says("round", 2);
        says("who", 3);
        for (String near : "dept depths aske askedd lou louds topi topics roun rounds wh whos Depth".split(" ")) {
            fault("weight " + near + " ;", 7);
        }
    }

    private static void wrapping() {
        next("An E is an int (32 bits, wrapping):");
        says("256 * 256 * 256 * 256", 0);
        says("256 * 256 * 256 * 256 + 9", 9);
        says("256 * 256 * 256 * 128", -999);
        says("256 * 256 * 256 * 128 - 1", 999);
        says("-(256 * 256 * 256 * 128)", -999);
        says("-(256 * 256 * 256 * 128) = 256 * 256 * 256 * 128", 1);
        says("256 * 256 * 256 * 128 * -1 < 0", 1);
        says("256 * 256 * 256 * 127 + 256 * 256 * 255 + 256 * 255 + 255", 999);
        says("256 * 256 * 256 * 127 + 256 * 256 * 255 + 256 * 255 + 256", -999);
        says("256 * 256 * 256 * 128 < 1", 1);
        says("1 < 256 * 256 * 256 * 128", 0);
        says("9999 * 9999 * 22", -999);
    }

    private static void truth() {
        next("of or, and, not, <, = 1 or 0 (what is not 0 is true).");
        says("5 or 0", 1);
        says("0 or -4", 1);
        says("0 or 0", 0);
        says("1 and 2", 1);
        says("-1 and -2", 1);
        says("5 and 0", 0);
        says("0 and 5", 0);
        says("not 0", 1);
        says("not 5", 0);
        says("not -1", 0);
        says("1 < 2", 1);
        says("2 < 2", 0);
        says("3 < 2", 0);
        says("-1 < 0", 1);
        says("2 = 2", 1);
        says("2 = 3", 0);
        says("3 = 2", 0);
        says("256 * 256 * 256 * 256 or 0", 0);
        says("256 * 256 * 256 * 128 and 256 * 256", 1);
        says("(7 or 0) * 5", 5);
    }

    private static void firstToken() {
        next("FAULT: the place of the first byte of the first TOKEN that can't stand there");
        fault("points 1 ; weight 1 ; hires 1 ;", 0);
        fault("weight 1 ; hires 1 ; points 1 ;", 11);
        fault("weight   points ;", 9);
        fault("weight 1 1234 A 12345 ;", 9);
        fault("weight 1 ; points ; hires ;", 18);
        fault("weight ) A ;", 7);
        fault("weight 1 ) ;", 9);
        fault("weight ( ) ;", 9);
        fault("weight 1 + not 2 ;", 11);
        fault("weight - not 2 ;", 9);
        fault("weight 1 < 2 = 3 ;", 13);
        fault("weight 1 < not 2 ;", 11);
        fault("weight 1 ; points 2 ; hires 3 ; ;", 32);
    }

    private static void tooEarly() {
        next("(the text's size, if it ends too early),");
        fault("", 0);
        fault(" ", 1);
        fault(" \n ", 3);
        fault("weight", 6);
        fault("weight 1", 8);
        fault("weight 1 \n ", 11);
        fault("weight (1", 9);
        fault("weight 1 ; points 1 ; hires 1", 29);
        fault("weight 1 ; points 1 ; hires 1  ", 31);
        fault("weight 1 ; points 1 ;", 21);
    }

    private static void noTokens() {
        next("also of a byte that begins none,");
        for (int sign = 0; sign <= 255; sign++) {
            String token = String.valueOf((char) sign);
            boolean begins = isOf(token, TOKENS) || sign >= '0' && sign <= '9' || sign >= 'a' && sign <= 'z';
            if (!begins && sign != 32 && sign != 10) fault("weight " + token + " 1 ;", 7);
        }
        fault("weight 1 & 2 ;", 9);
        next("of a WORD that is neither KEY nor NAME,");
        fault("weigh 1 ;", 0);
        fault("weights 1 ;", 0);
        fault("weight 1 ; point 1 ;", 11);
        fault("weight 1 ; points 1 ; hire 1 ;", 22);
        fault("weight 1 xor 2 ;", 9);
        fault("weight no 2 ;", 7);
        fault("weight 1 an 2 ;", 9);
        fault("weight 1 o 2 ;", 9);
        fault("weight 1 ; points 1 ; hires 1 ; x", 32);
        unlikeWords();
        next("a NUMBER that is too long,");
        fault("weight 1 + 12345 ;", 11);
        fault("weight 1 12345 ;", 9);
        fault("12345 weight", 0);
        fault("weight 1 ; points 1 ; hires 1 ; 12345", 32);
    }

    /** Each KEY and NAME with one letter otherwise, one less or one more, where it could stand. */
    private static void unlikeWords() {
        String[] ahead = {"", "weight 1 ; ", "weight 1 ; points 1 ; ", "weight 1 ", "weight 1 ", "weight "};
        String[] words = {"weight", "points", "hires", "or", "and", "not depth asked loud topic round who"};
        for (int i = 0; i < ahead.length; i++) {
            for (String word : words[i].split(" ")) {
                for (int k = 0; k < word.length(); k++) {
                    fault(ahead[i] + word.substring(0, k) + "x" + word.substring(k + 1) + " 1 ;", ahead[i].length());
                }
                fault(ahead[i] + word.substring(1) + " 1 ;", ahead[i].length());
                fault(ahead[i] + word.substring(0, word.length() - 1) + " 1 ;", ahead[i].length());
                fault(ahead[i] + word + "x 1 ;", ahead[i].length());
                fault(ahead[i] + "x" + word + " 1 ;", ahead[i].length());
            }
        }
    }

    private static void tooManyOpen() {
        next("a ( , a not, a - ahead of a ONE while 5 of these are open");
        String[] openers = {"(", "not", "-"};
        for (int lot = 0; lot < 243; lot++) {
            String five = "";
            int closed = 0;
            String last = "";
            boolean canStand = true;
            for (int i = 0, rest = lot; i < 5; i++, rest /= 3) {
                if (last.equals("-") && rest % 3 == 1) canStand = false;
                last = openers[rest % 3];
                if (rest % 3 == 0) closed++;
                five += last + " ";
            }
            if (!canStand) continue;
            stands(five + "1" + ")".repeat(closed));
            for (String sixth : openers) fault("weight " + five + sixth + " 1 ;", 7 + five.length());
        }
    }

    private static void tillTheyEnd() {
        next("(a ( till its ) , not and - till what they belong to ends).");
        stands("(((((1))))) + (((((2)))))");
        stands("(((((1)))) + (2))");
        stands("(((((1))) + (((2)))))");
        fault("weight (((((1))) + ((((2 ;", 22);
        stands("((((-1 * -2))))");
        fault("weight ((((- - 2 ;", 13);
        stands("- - - - - 1 * - - - - - 2");
        stands("- - - - - 1 + (((((2)))))");
        stands("1 - - - - - - 2");
        fault("weight 1 - - - - - - - 2 ;", 21);
        stands("not not not not not 1 and not not not not not 2");
        stands("not not not not not 1 or (((((2)))))");
        stands("not not not not 1 < -1");
        fault("weight not not not not not 1 < -1 ;", 31);
        fault("weight not not not not not 1 * (1) ;", 31);
        fault("weight not not not not not 1 + 2 = - 3 ;", 35);
        stands("not not not not (1) < (1) * 2 and - - - - - 1");
        fault("weight not not not not (1) < -(1) ;", 30);
        stands("(not not not not 1) < (not not not not 1)");
        stands("-(-(-1)) * -(-(-1))");
        due("what a bracket holds is not open in the next E",
            Inns.write(new QuestionsInAnInn(), "weight (((((1)))));points(((((2)))));hires - - - - - 3;"), 1);
        says("1 or 1 and 1 < 1 + 1 * (1 or 1 and 1 < 1 + 1 * (1 or 0 and 1 < 1 + 1 * (1 or 1 and 1 < 1 + 1 * (2))))", 1);
        says("0or 0and 0<0+2*(0or 0and 0<0+2*(0or 0and 0<0+2*(0or 0and 0<0+2*(0or 0and 0<0+2*(0or 1and 0<0+2*1)))))", 0);
    }

    private static void howManyTexts() {
        next("TEXTS are numbered from 0 on, 6 at most;");
        QuestionsInAnInn inn = new QuestionsInAnInn();
        for (int n = 1; n <= 5; n++) {
            due("one that isn't there yet", inn.force(n), -2);
            due("one that comes", Inns.write(inn, textOf(n + " * 10")), n);
            due("how many", inn.count(2), n + 1);
        }
        for (int n = 1; n <= 5; n++) {
            due("of that number", inn.force(n), n - 1);
            due("what it says", inn.asks(0, 0, 0, 0, 0), 10 * n);
        }
        due("a seventh", Inns.write(inn, textOf("1")), -4);
        due("how many", inn.count(2), 6);
        due("none of number 6", inn.force(6), -2);
        next("TEXT 0, at first, and THE LAW: weight loud * 2 + depth ; points 1 ; hires depth ;");
        QuestionsInAnInn first = new QuestionsInAnInn();
        due("TEXTS", first.count(2), 1);
        due("THE LAW", first.count(3), 0);
        due("weight", first.asks(0, 73, 20, 12, 3), 47);
        due("points", first.asks(1, 73, 20, 12, 3), 1);
        due("hires", first.asks(2, 73, 20, 12, 3), 7);
        due("weight of all 0", first.asks(0, 0, 0, 0, 0), 0);
        due("points of all 0", first.asks(1, 0, 0, 0, 0), 1);
        due("hires of all 0", first.asks(2, 0, 0, 0, 0), 0);
    }

    private static void bounds() {
        next("(weight -999 .. 999, points, hires 0 .. 99, else the bound).");
        int[][] weights = {{998, 998}, {999, 999}, {1000, 999}, {9999, 999}, {-998, -998}, {-999, -999}, {-1000, -999}};
        for (int[] one : weights) says(String.valueOf(one[0]), one[1]);
        int[][] others = {{0, 0}, {-1, 0}, {-9999, 0}, {98, 98}, {99, 99}, {100, 99}, {9999, 99}};
        for (int[] one : others) {
            QuestionsInAnInn inn = Inns.withLaw("weight 1 ; points " + one[0] + " ; hires " + one[0] + " ;");
            due("points " + one[0], inn.asks(1, 0, 0, 0, 0), one[1]);
            due("hires " + one[0], inn.asks(2, 0, 0, 0, 0), one[1]);
            Inns.guest(inn, 0, 0);
            inn.question(0, 0);
            due("SCORE by points " + one[0], inn.score(0, 0), one[1]);
            due("price by hires " + one[0], inn.price(0), one[1]);
        }
        believedBy("999 + who", 0);
        believedBy("998 + who", 1);
        believedBy("-1001 + who", 0);
        believedBy("-1000 + who * 2", 1);
    }

    private static void believedBy(String weight, int want) {
        QuestionsInAnInn inn = Inns.weighing(weight);
        for (int p = 0; p < 2; p++) Inns.guest(inn, 0, 0);
        inn.question(0, 0);
        due("believed by weight " + weight, inn.answer(0, 0, 0), want);
    }

    private static void ofOneAtAQuestion() {
        next("weight, of one at a QUESTION: depth: how much one KNOWS;");
        QuestionsInAnInn inn = Inns.weighing("depth");
        Inns.guest(inn, 0, 0, 2, 9);
        inn.come(10, 0, 0);
        inn.learn(1, 0, 0);
        Inns.ask(inn, 0, 9, 1, 9);
        due("a TEACHER of DEEP 0 KNOWS 3", inn.answer(0, 0, 0), 1);
        due("of the QUESTION's TOPIC", inn.answer(0, 1, 0), 0);
        next("asked: ASKED;");
        believedFor("asked", 1, 2, 1, 0, 1, 1);
        next("loud: how LOUD one is;");
        due("a LOUD ONE of TOLD 7", Inns.loudness(30, 7, 0), 19);
        next("topic;");
        believedFor("topic", 2, 0, 0, 0, 1, 0);
        next("round: the QUESTION's number;");
        believedFor("round", 3, 3, 3, 3, 3, 3);
        next("who: one's number.");
        believedBy("who", 1);
        believedBy("0 - who", 0);
    }

    /** That NAME tells which of three is believed, at each of three QUESTIONS (TOPIC, ASKED). */
    private static void believedFor(String name, int... topicsAndDepths) {
        QuestionsInAnInn inn = Inns.weighing("who = " + name);
        for (int p = 0; p < 3; p++) Inns.guest(inn, 9, 0, 9, 9, 9, 9);
        Inns.ask(inn, topicsAndDepths);
        for (int q = 0; q < 3; q++) {
            int[] tells = {topicsAndDepths[2 * q + 1], topicsAndDepths[2 * q], q};
            int want = name.equals("asked") ? tells[0] : name.equals("topic") ? tells[1] : tells[2];
            due("believed at " + q, inn.answer(0, q, 0), want);
        }
    }

    private static void ofAQuestion() {
        next("points, of a QUESTION: asked, topic, round likewise;");
        countsFor("asked * 10 + topic * 3 + round * 2", 2 * 10 + 1 * 3 + 1 * 2);
        countsFor("asked", 2);
        countsFor("topic", 1);
        countsFor("round", 1);
        next("the others 0.");
        countsFor("depth + loud + who", 0);
        countsFor("7 + depth * 99 + loud * 99 + who * 99", 7);
    }

    /** QUESTION 1 counts so much at a TABLE of guest 1, who has it RIGHT. */
    private static void countsFor(String points, int want) {
        QuestionsInAnInn inn = Inns.withLaw("weight 1 ; points " + points + " ; hires 1 ;");
        Inns.guest(inn, 9, 1, 9, 0);
        Inns.guest(inn, 9, 0, 0, 9);
        Inns.ask(inn, 0, 9, 1, 2);
        due("points " + points, inn.score(0, 0), want);
    }

    private static void ofOne() {
        next("hires, of one: topic: the one that one knows DEEPEST, of like ones the first;");
        costsBy("topic", 0);
        costsBy("topic", 3, 0, 0, 0, 1);
        costsBy("topic", 1, 2, 8, 5, 8);
        costsBy("topic", 0, 9, 9, 9, 9);
        costsBy("topic", 2, 0, 0, 4, 4);
        next("depth: how DEEP;");
        costsBy("depth", 0);
        costsBy("depth", 8, 2, 8, 5, 8);
        costsBy("depth", 9, 0, 0, 0, 9);
        next("loud: TOLD;");
        costsBy("loud", 11);
        next("who;");
        costsBy("who", 1);
        next("the others 0.");
        costsBy("asked + round", 0);
        costsBy("5 + asked * 99 + round * 99", 5);
    }

    /** So much a LOUD ONE of TOLD 11 costs who is number 1 and knows TOPICS so DEEP, when there are QUESTIONS. */
    private static void costsBy(String hires, int want, int... deep) {
        QuestionsInAnInn inn = Inns.withLaw("weight 1 ; points 1 ; hires " + hires + " ;");
        Inns.guest(inn, 3, 0, 1, 1, 1, 1);
        inn.come(31, 11, 0);
        for (int topic = 0; topic < deep.length; topic++) inn.learn(1, topic, deep[topic]);
        Inns.ask(inn, 3, 9, 3, 9);
        inn.score(0, 0);
        due("hires " + hires, inn.price(1), want);
    }
}
