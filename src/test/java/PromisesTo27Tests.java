/** Promises 15 to 27: answers, whom to ask, close, good, alike. */
public final class PromisesTo27Tests {
    private static final long NO = -4611686018427387904L;
    private static final Reading READ = new Reading("promises 15 to 27");

    public static void main(String[] args) {
        READ.behindPromise(14);
        answer();
        score();
        evening();
        best();
        join();
        leave();
        cover();
        hire();
        price();
        close();
        good();
        alike();
        change();
        READ.end();
    }

    private static void next(String sentence) {
        READ.next(sentence);
    }

    private static void due(String call, long got, long want) {
        READ.due(call, got, want);
    }

    private static void answer() {
        READ.promise(15);
        next("At a QUESTION of a TABLE what 0 whom it BELIEVES (-1: nobody sits there),");
        QuestionsInAnInn inn = Inns.someEvening();
        due("TABLE 0 of TOPIC 0", inn.answer(0, 0, 0), 0);
        due("TABLE 0 of TOPIC 1", inn.answer(0, 1, 0), 1);
        due("TABLE 0 of TOPIC 2", inn.answer(0, 2, 0), 0);
        due("TABLE 1", inn.answer(1, 1, 0), 2);
        due("nobody", inn.answer(2, 2, 0), -1);
        next("1 whether it is RIGHT (1, 0),");
        int[][] rights = {{1, 1, 1}, {1, 0, 1}, {0, 0, 0}};
        for (int t = 0; t < 3; t++) {
            for (int q = 0; q < 3; q++) due("TABLE " + t + " at " + q, inn.answer(t, q, 1), rights[t][q]);
        }
        next("2 who sits there and KNOWS as much as is ASKED (bits).");
        int[][] able = {{1, 2, 3}, {4, 0, 4}, {0, 0, 0}};
        for (int t = 0; t < 3; t++) {
            for (int q = 0; q < 3; q++) due("TABLE " + t + " at " + q, inn.answer(t, q, 2), able[t][q]);
        }
        QuestionsInAnInn all = new QuestionsInAnInn();
        for (int p = 0; p < 7; p++) Inns.guest(all, 0, 1, p);
        Inns.ask(all, 0, 0, 0, 3, 0, 6, 0, 7);
        due("all seven", all.answer(1, 0, 2), 127);
        due("four", all.answer(1, 1, 2), 120);
        due("the last one", all.answer(1, 2, 2), 64);
        due("none", all.answer(1, 3, 2), 0);
        next("-5: no such TABLE, QUESTION;");
        for (int t : Inns.outside(0, 2)) due("TABLE " + t, inn.answer(t, 0, 9), -5);
        for (int q : Inns.outside(0, 2)) due("QUESTION " + q, inn.answer(0, q, 9), -5);
        next("-7: what.");
        for (int what : Inns.outside(0, 2)) due("what " + what, inn.answer(2, 0, what), -7);
    }

    private static void score() {
        READ.promise(16);
        next("Of a TABLE what 0 SCORE,");
        QuestionsInAnInn inn = Inns.someEvening();
        due("of TABLE 0", inn.score(0, 0), 3);
        due("of TABLE 1", inn.score(1, 0), 2);
        due("of nobody", inn.score(2, 0), 0);
        inn.lay(0, 1);
        due("with a JOKER", inn.score(0, 0), 4);
        next("1 QUESTIONS (bits) that are RIGHT,");
        due("of TABLE 0", inn.score(0, 1), 7);
        due("of TABLE 1", inn.score(1, 1), 5);
        due("of nobody", inn.score(2, 1), 0);
        next("2 QUESTIONS (bits) that aren't, though anybody who sits there KNOWS as much.");
        due("of TABLE 0", inn.score(0, 2), 0);
        due("of TABLE 1", inn.score(1, 2), 0);
        due("of nobody", inn.score(2, 2), 0);
        inn.sit(3, 1);
        due("a loud one is BELIEVED", inn.score(1, 1), 6);
        due("a quiet one had it", inn.score(1, 2), 1);
        QuestionsInAnInn eight = new QuestionsInAnInn();
        Inns.guest(eight, 9, 0, 0, 9);
        Inns.guest(eight, 0, 0, 9, 0);
        for (int q = 0; q < 8; q++) eight.question(q < 4 ? 1 : 0, 9);
        due("RIGHT", eight.score(0, 1), 15);
        due("the quiet one had the rest", eight.score(0, 2), 240);
        eight.learn(0, 0, 9);
        due("all RIGHT", eight.score(0, 1), 255);
        due("none is left", eight.score(0, 2), 0);
        next("-5: no such TABLE;");
        for (int t : Inns.outside(0, 2)) due("TABLE " + t, inn.score(t, 9), -5);
        next("-7: what.");
        for (int what : Inns.outside(0, 2)) due("what " + what, inn.score(0, what), -7);
    }

    private static void evening() {
        READ.promise(17);
        next("The TABLE of the highest SCORE, of like ones the first (what 0),");
        QuestionsInAnInn inn = new QuestionsInAnInn();
        for (int t = 0; t < 3; t++) Inns.guest(inn, 0, t, 5);
        Inns.ask(inn, 0, 1, 0, 2, 0, 3);
        due("3, 3, 3", inn.evening(0), 0);
        inn.learn(0, 0, 2);
        due("2, 3, 3", inn.evening(0), 1);
        inn.learn(1, 0, 1);
        due("2, 1, 3", inn.evening(0), 2);
        inn.learn(2, 0, 2);
        due("2, 1, 2", inn.evening(0), 0);
        inn.lay(1, 0);
        due("2, 2, 2", inn.evening(0), 0);
        inn.learn(0, 0, 1);
        due("1, 2, 2", inn.evening(0), 1);
        for (int p = 0; p < 3; p++) inn.sit(p, -1);
        due("nobody", inn.evening(0), 0);
        next("APART (1).");
        due("nobody", inn.evening(1), 0);
        inn.sit(2, 2);
        due("0, 0, 2", inn.evening(1), 2);
        inn.sit(0, 0);
        due("1, 0, 2", inn.evening(1), 2);
        inn.sit(1, 1);
        due("1, 2, 2", inn.evening(1), 1);
        next("BAD.");
        for (int what : Inns.outside(0, 1)) due("what " + what, inn.evening(what), -2);
    }

    private static void best() {
        READ.promise(18);
        next("The QUESTION before which its JOKER should lie for the highest SCORE of a TABLE,");
        QuestionsInAnInn inn = Inns.withLaw("weight loud ; points asked ; hires 1 ;");
        Inns.guest(inn, 1, 0, 9, 4, 3);
        Inns.ask(inn, 1, 3, 0, 5, 2, 9, 0, 5);
        due("the dearest that is RIGHT", inn.best(0, 0), 1);
        inn.question(0, 6);
        due("a dearer one", inn.best(0, 0), 4);
        inn.lay(0, 3);
        due("wherever it lies", inn.best(0, 0), 4);
        due("it stays", inn.laid(0), 3);
        next("if higher than without JOKER,");
        QuestionsInAnInn none = Inns.withLaw("weight loud ; points 0 - asked ; hires 1 ;");
        Inns.guest(none, 1, 0, 9);
        Inns.ask(none, 0, 0, 0, 1);
        due("0 is not higher", none.best(0, 0), -1);
        Inns.force(none, "weight loud ; points round ; hires 1 ;");
        due("1 is higher", none.best(0, 0), 1);
        none.lay(0, 1);
        due("higher than without, not than now", none.best(0, 0), 1);
        next("of like ones the first (what 0; -1: none),");
        Inns.force(none, "weight loud ; points 1 ; hires 1 ;");
        due("the first", none.best(0, 0), 0);
        due("nobody", none.best(1, 0), -1);
        QuestionsInAnInn eight = new QuestionsInAnInn();
        Inns.guest(eight, 1, 2, 9);
        for (int q = 0; q < 8; q++) eight.question(q < 7 ? 1 : 0, 5);
        due("the last of eight", eight.best(2, 0), 7);
        next("that SCORE (1; as without, if none).");
        due("5 + 3 + 5 + 6 and 6", inn.best(0, 1), 25);
        due("as without", inn.best(1, 1), 0);
        due("1 and twice 1", none.best(0, 1), 3);
        Inns.force(none, "weight loud ; points 0 ; hires 1 ;");
        due("none is higher", none.best(0, 1), 0);
        next("-5: no such TABLE;");
        for (int t : Inns.outside(0, 2)) due("TABLE " + t, inn.best(t, 9), -5);
        next("-7: what.");
        for (int what : Inns.outside(0, 1)) due("what " + what, inn.best(1, what), -7);
    }

    private static void join() {
        READ.promise(19);
        next("Of those who don't sit at a TABLE the one by whom, did one sit there, its SCORE would be highest,");
        QuestionsInAnInn inn = Inns.someEvening();
        due("for TABLE 1 one of TABLE 0", inn.join(1, 0), 1);
        inn.learn(3, 0, 4);
        due("for TABLE 2 one of none", inn.join(2, 0), 3);
        due("nobody moved", inn.told(3, 4), -1);
        next("if higher than now,");
        QuestionsInAnInn like = new QuestionsInAnInn();
        Inns.guest(like, 1, 0, 3);
        Inns.guest(like, 9, 1, 3);
        Inns.guest(like, 9, -1, 0);
        Inns.ask(like, 0, 3);
        due("as high as now", like.join(0, 0), -1);
        due("nobody who makes it lower", like.join(1, 0), -1);
        like.learn(0, 0, 2);
        due("higher", like.join(0, 0), 1);
        next("of like ones the first (what 0; -1: none),");
        due("two for TABLE 2", Inns.someEvening().join(2, 0), 0);
        like.learn(2, 0, 3);
        due("two for TABLE 0", like.join(0, 0), 1);
        like.sit(1, 0);
        due("one sits there, as high as now", like.join(0, 0), -1);
        QuestionsInAnInn last = new QuestionsInAnInn();
        for (int p = 0; p < 7; p++) Inns.guest(last, 0, p < 6 ? 1 : -1, p);
        last.question(0, 6);
        due("the last of seven", last.join(0, 0), 6);
        last.sit(6, 0);
        due("nobody", last.join(0, 0), -1);
        due("nobody at all", new QuestionsInAnInn().join(0, 0), -1);
        next("that SCORE (1; as now, if none).");
        due("of TABLE 2", inn.join(2, 1), 3);
        due("of TABLE 1", inn.join(1, 1), 3);
        due("as now", inn.join(0, 1), 3);
        inn.lay(2, 1);
        due("with its JOKER", inn.join(2, 1), 4);
        due("as now", last.join(0, 1), 1);
        next("-5: no such TABLE;");
        for (int t : Inns.outside(0, 2)) due("TABLE " + t, inn.join(t, 9), -5);
        next("-7: what.");
        for (int what : Inns.outside(0, 1)) due("what " + what, inn.join(0, what), -7);
    }

    private static void leave() {
        READ.promise(20);
        next("Of those who sit at a TABLE those (bits) without each of whom alone its SCORE would be higher (what 0),");
        QuestionsInAnInn inn = new QuestionsInAnInn();
        Inns.guest(inn, 9, 0, 1);
        Inns.guest(inn, 3, 0, 5);
        Inns.guest(inn, 2, 0, 0);
        Inns.guest(inn, 1, 1, 5);
        inn.question(0, 4);
        due("the loud one", inn.leave(0, 0), 1);
        due("not the only one", inn.leave(1, 0), 0);
        due("nobody sits there", inn.leave(2, 0), 0);
        QuestionsInAnInn two = new QuestionsInAnInn();
        Inns.guest(two, 9, 0, 1, 9);
        Inns.guest(two, 9, 0, 0, 9);
        Inns.guest(two, 1, 0, 9, 0);
        two.question(0, 4);
        due("not without both, but without each alone", two.leave(0, 0), 0);
        next("no less (1) than now.");
        due("it stays 0", inn.leave(0, 1), 7);
        due("the only one", inn.leave(1, 1), 0);
        due("nobody sits there", inn.leave(2, 1), 0);
        inn.sit(0, -1);
        due("not the one who has it", inn.leave(0, 1), 4);
        due("none makes it higher", inn.leave(0, 0), 0);
        due("nobody moved", inn.told(1, 4), 0);
        QuestionsInAnInn all = new QuestionsInAnInn();
        for (int p = 0; p < 7; p++) Inns.guest(all, 0, 2, 4);
        all.question(0, 4);
        due("each of seven", all.leave(2, 1), 127);
        due("higher by none", all.leave(2, 0), 0);
        for (int p = 0; p < 6; p++) all.learn(p, 0, 3);
        due("all but the one who has it", all.leave(2, 1), 63);
        next("-5: no such TABLE;");
        for (int t : Inns.outside(0, 2)) due("TABLE " + t, inn.leave(t, 9), -5);
        next("-7: what.");
        for (int what : Inns.outside(0, 1)) due("what " + what, inn.leave(0, what), -7);
    }

    private static void cover() {
        READ.promise(21);
        next("The fewest of all PEOPLE of whom, for each QUESTION of which anybody KNOWS as much as is ASKED, any does,");
        QuestionsInAnInn inn = new QuestionsInAnInn();
        due("nobody", inn.cover(0), 0);
        Inns.guest(inn, 0, 0, 5, 0, 0);
        due("no QUESTIONS", inn.cover(0), 0);
        Inns.guest(inn, 0, 1, 0, 5, 0);
        Inns.guest(inn, 0, -1, 5, 0, 5);
        Inns.guest(inn, 0, 2, 5, 5, 0);
        inn.question(3, 9);
        due("what nobody KNOWS", inn.cover(0), 0);
        inn.question(0, 5);
        due("one", inn.cover(0), 1);
        Inns.ask(inn, 1, 5, 2, 5);
        due("two, one of none", inn.cover(0), 2);
        next("of like ones the least as bits:");
        due("1 and 2, not 2 and 3", inn.cover(1), 6);
        inn.learn(3, 2, 5);
        due("fewer ahead of less", inn.cover(1), 8);
        inn.learn(2, 1, 5);
        due("2, not 3", inn.cover(1), 4);
        next("how many (what 0), who (1; bits).");
        QuestionsInAnInn four = new QuestionsInAnInn();
        for (int p = 0; p < 4; p++) {
            Inns.guest(four, 0, p - 1);
            four.learn(p, p, 7);
            four.question(p, 7);
        }
        due("all four", four.cover(0), 4);
        due("who", four.cover(1), 15);
        for (int p = 4; p < 7; p++) Inns.guest(four, 0, 0, 7, 7, 7);
        due("the fourth and the fifth", four.cover(0), 2);
        due("who", four.cover(1), 24);
        four.learn(6, 3, 7);
        due("the last of seven", four.cover(1), 64);
        next("BAD.");
        for (int what : Inns.outside(0, 1)) due("what " + what, inn.cover(what), -2);
    }

    private static QuestionsInAnInn hiring() {
        QuestionsInAnInn inn = Inns.withLaw("weight depth ; points 1 ; hires loud ;");
        Inns.guest(inn, 1, 0, 1);
        Inns.guest(inn, 8, -1, 5);
        Inns.guest(inn, 4, -1, 5);
        Inns.guest(inn, 4, -1, 5);
        Inns.guest(inn, 9, -1, 5, 5);
        Inns.guest(inn, 0, 1, 9, 9);
        Inns.ask(inn, 0, 4, 1, 4);
        return inn;
    }

    private static void hire() {
        READ.promise(22);
        next("Of those who sit at no TABLE, and whose hires is no more than coin (0 .. 999),");
        QuestionsInAnInn inn = hiring();
        due("for 9 the one of 9, not the one of TABLE 1", inn.hire(0, 9, 0), 4);
        due("for 8", inn.hire(0, 8, 0), 2);
        due("for 4", inn.hire(0, 4, 0), 2);
        due("for 3", inn.hire(0, 3, 0), -1);
        due("for 999", inn.hire(0, 999, 0), 4);
        due("for 0", inn.hire(0, 0, 0), -1);
        inn.sit(5, -1);
        due("for 0 the one of 0", inn.hire(0, 0, 0), 5);
        inn.sit(5, 1);
        next("the one by whom, did one sit at a TABLE, its SCORE would be highest, if higher than now,");
        due("two are higher than one", inn.hire(2, 999, 0), 4);
        due("not higher than now", inn.hire(1, 999, 0), -1);
        inn.learn(0, 0, 9);
        due("for TABLE 0 just one makes two", inn.hire(0, 999, 0), 4);
        due("the others make no more", inn.hire(0, 8, 0), -1);
        due("nobody moved", inn.told(4, 4), -1);
        next("of like ones the one who costs least, then the first (what 0; -1: none),");
        due("two of 4, one of 8", inn.hire(2, 8, 0), 2);
        inn.learn(2, 0, 3);
        due("the other one of 4", inn.hire(2, 8, 0), 3);
        inn.learn(3, 0, 3);
        due("the one of 8", inn.hire(2, 8, 0), 1);
        due("none", inn.hire(2, 7, 0), -1);
        QuestionsInAnInn all = Inns.withLaw("weight depth ; points 1 ; hires 5 ;");
        for (int p = 0; p < 7; p++) Inns.guest(all, 0, -1, p < 6 ? 3 : 4);
        all.question(0, 3);
        due("the first of seven", all.hire(1, 5, 0), 0);
        all.question(0, 4);
        due("the last of seven", all.hire(1, 5, 0), 6);
        next("what that one costs (1; -1).");
        due("the one of 8", inn.hire(2, 8, 1), 8);
        due("none", inn.hire(2, 7, 1), -1);
        due("the one of 9", inn.hire(2, 9, 1), 9);
        due("nobody", new QuestionsInAnInn().hire(0, 999, 1), -1);
        inn.sit(5, -1);
        due("0", inn.hire(2, 0, 1), 0);
        next("-5: no such TABLE;");
        for (int t : Inns.outside(0, 2)) due("TABLE " + t, inn.hire(t, 1000, 9), -5);
        next("-7: coin, what.");
        for (int coin : Inns.outside(0, 999)) due("coin " + coin, inn.hire(1, coin, 0), -7);
        for (int what : Inns.outside(0, 1)) due("what " + what, inn.hire(1, 0, what), -7);
    }

    private static void price() {
        READ.promise(23);
        next("hires of one.");
        QuestionsInAnInn inn = Inns.someEvening();
        due("how DEEP at the deepest", inn.price(2), 7);
        due("how DEEP at the deepest", inn.price(3), 9);
        inn.come(13, 11, 0);
        due("who knows nothing", inn.price(4), 0);
        inn.learn(4, 3, 4);
        due("DEEP, not what one KNOWS", inn.price(4), 4);
        inn.come(33, 11, 0);
        Inns.force(inn, "weight 1 ; points 1 ; hires topic * 10 + who ;");
        due("topic and who", inn.price(4), 34);
        Inns.force(inn, "weight 1 ; points 1 ; hires loud ;");
        due("TOLD, not how LOUD", inn.price(5), 11);
        Inns.force(inn, "weight 1 ; points 1 ; hires loud - 12 ;");
        due("bound below", inn.price(5), 0);
        Inns.force(inn, "weight 1 ; points 1 ; hires loud * 9 ;");
        due("99", inn.price(5), 99);
        Inns.force(inn, "weight 1 ; points 1 ; hires loud * 10 ;");
        due("bound above", inn.price(5), 99);
        next("-5: no such one.");
        for (int p : Inns.outside(0, 5)) due("price of " + p, inn.price(p), -5);
    }

    /** TABLE 0 has 0 and 1 RIGHT, TABLE 1 2 and 3, TABLE 2 all: of 5, 2, 7, 2 points. */
    private static QuestionsInAnInn nearEvening() {
        QuestionsInAnInn inn = Inns.withLaw("weight loud ; points asked ; hires 1 ;");
        Inns.guest(inn, 1, 0, 9, 0);
        Inns.guest(inn, 1, 1, 0, 9);
        Inns.guest(inn, 1, 2, 9, 9);
        Inns.ask(inn, 0, 5, 0, 2, 1, 7, 1, 2);
        return inn;
    }

    private static void close() {
        READ.promise(24);
        next("Of all sets of so many (0 .. 8) QUESTIONS that by which, were these all, TABLES would be least APART,");
        QuestionsInAnInn inn = nearEvening();
        due("none", inn.close(0, 0), 0);
        due("all", inn.close(4, 0), 15);
        inn.lay(2, 1);
        due("one: 0, 2, 2, not 2, 0, 4", inn.close(1, 0), 8);
        inn.lay(2, -1);
        inn.lay(0, 1);
        due("one: 0, 2, 2, not 4, 0, 2", inn.close(1, 0), 8);
        inn.lay(0, -1);
        QuestionsInAnInn rounds = new QuestionsInAnInn();
        rounds.come(51, 1, 0);
        Inns.ask(rounds, 0, 0, 0, 9);
        due("TELEPHONE has QUESTION 1 RIGHT", rounds.score(0, 1), 3);
        due("QUESTION 1 keeps its number", rounds.close(1, 1), 1);
        next("of like ones the least as bits (what 0; -1: there aren't so many),");
        due("one of 2", inn.close(1, 0), 2);
        due("two of 2 or of 4", inn.close(2, 0), 10);
        due("three of 7: 7, 7, 14 or 7, 2, 9", inn.close(3, 0), 7);
        due("five", inn.close(5, 0), -1);
        due("eight", inn.close(8, 0), -1);
        due("one of none", new QuestionsInAnInn().close(1, 0), -1);
        due("none of none", new QuestionsInAnInn().close(0, 0), 0);
        Inns.ask(inn, 2, 9, 2, 9, 2, 9, 2, 9);
        due("eight of eight", inn.close(8, 0), 255);
        due("four of none", inn.close(4, 0), 240);
        due("one of none", inn.close(1, 0), 16);
        next("how far (1; -1).");
        due("one of none", inn.close(1, 1), 0);
        due("eight: 7, 9, 16", inn.close(8, 1), 9);
        due("none", inn.close(0, 1), 0);
        due("five of four", nearEvening().close(5, 1), -1);
        due("four of four: 7, 9, 16", nearEvening().close(4, 1), 9);
        due("two: 2, 2, 4", nearEvening().close(2, 1), 2);
        next("BAD.");
        for (int many : Inns.outside(0, 8)) due("so many: " + many, inn.close(many, 0), -2);
        for (int what : Inns.outside(0, 1)) due("what " + what, inn.close(8, what), -2);
        for (int what : Inns.outside(0, 1)) due("what " + what + " of too many", nearEvening().close(8, what), -2);
    }

    private static void good() {
        READ.promise(25);
        next("Pairs of TABLES of which one has a QUESTION RIGHT, the other one not:");
        QuestionsInAnInn inn = Inns.someEvening();
        due("no pair but with TABLE 2: 2 and 1 against 0", inn.good(0), 2);
        due("TABLE 0 (2 without) with 1 (2) and 2 (0)", inn.good(1), 1);
        inn.sit(3, 2);
        inn.learn(3, 0, 9);
        due("all have it RIGHT", inn.good(0), 0);
        inn.question(3, 9);
        due("none has it RIGHT", inn.good(3), 0);
        next("in how many the former one's SCORE, its points for that QUESTION left out, is above the other one's, less in how many it is below.");
        QuestionsInAnInn evening = Inns.someEvening();
        evening.lay(1, 0);
        due("2 without is below 3, above 0", evening.good(1), 0);
        evening.lay(0, 1);
        due("twice its points are left out", evening.good(1), 0);
        evening.lay(0, 0);
        due("3 without is like 3, above 0", evening.good(1), 1);
        evening.lay(1, -1);
        evening.learn(0, 0, 3);
        due("TABLE 1: 1 without, below 2, above 0", evening.good(0), 0);
        evening.lay(1, 2);
        due("TABLE 1: 2 without, like 2, above 0", evening.good(0), 1);
        evening.lay(0, 1);
        due("TABLE 1: 2 without, below 3, above 0", evening.good(0), 0);
        evening.sit(3, 2);
        evening.lay(2, 1);
        evening.sit(1, -1);
        due("TABLE 2: 1 without, like 1 (of 0), below 3 (of 1)", evening.good(1), -1);
        evening.lay(1, -1);
        evening.question(2, 0);
        evening.question(2, 0);
        due("TABLE 2: 3 without, like 3, below 4", evening.good(1), -1);
        evening.lay(0, 2);
        due("TABLE 2: 3 without, below 4 and 4", evening.good(1), -2);
        next("-100000: no such QUESTION.");
        for (int q : Inns.outside(0, 4)) due("QUESTION " + q, evening.good(q), -100000);
    }

    private static void alike() {
        READ.promise(26);
        next("Of QUESTIONS that any of two TABLES has not RIGHT in how many both have not:");
        QuestionsInAnInn inn = Inns.someEvening();
        due("one of three", inn.alike(1, 2, 0), 1);
        due("one of three", inn.alike(1, 2, 1), 3);
        due("one of three, the other way", inn.alike(2, 1, 0), 1);
        due("one of three, the other way", inn.alike(2, 1, 1), 3);
        next("part 0 above, 1 below the line, in lowest terms.");
        due("none of one", inn.alike(0, 1, 0), 0);
        due("none of one", inn.alike(0, 1, 1), 1);
        due("none of three is none of one", inn.alike(0, 2, 0), 0);
        due("none of three is none of one", inn.alike(0, 2, 1), 1);
        inn.question(3, 9);
        due("two of four is one of two", inn.alike(1, 2, 0), 1);
        due("two of four is one of two", inn.alike(1, 2, 1), 2);
        for (int q = 0; q < 4; q++) inn.question(3, 9);
        due("six of eight is three of four", inn.alike(1, 2, 0), 3);
        due("six of eight is three of four", inn.alike(1, 2, 1), 4);
        inn.sit(2, -1);
        due("eight of eight is one of one", inn.alike(1, 2, 0), 1);
        due("eight of eight is one of one", inn.alike(1, 2, 1), 1);
        next("NO: none such (alike, too);");
        for (int t : Inns.outside(0, 2)) due("TABLE " + t, inn.alike(t, 1, 0), NO);
        for (int t : Inns.outside(0, 2)) due("with TABLE " + t, inn.alike(1, t, 1), NO);
        for (int t = 0; t < 3; t++) due("alike", inn.alike(t, t, 0), NO);
        for (int part : Inns.outside(0, 1)) due("part " + part, inn.alike(1, 2, part), NO);
        next("there is none.");
        due("no QUESTIONS", new QuestionsInAnInn().alike(0, 1, 0), NO);
        QuestionsInAnInn all = new QuestionsInAnInn();
        Inns.guest(all, 0, 0);
        Inns.guest(all, 0, 1);
        all.question(0, 0);
        due("both have all RIGHT", all.alike(0, 1, 0), NO);
        due("both have all RIGHT", all.alike(0, 1, 1), NO);
        due("the third has not", all.alike(0, 2, 0), 0);
    }

    private static void change() {
        READ.promise(27);
        next("Two who sit at unlike TABLES (or one at none) by whom, did they change places, TABLES would be least APART,");
        QuestionsInAnInn inn = new QuestionsInAnInn();
        Inns.guest(inn, 1, 0, 9);
        Inns.guest(inn, 1, 1, 0);
        Inns.guest(inn, 1, 2, 0);
        Inns.guest(inn, 1, -1, 0);
        inn.question(0, 5);
        due("one goes to none", inn.change(0), 3);
        inn.learn(3, 0, 9);
        inn.learn(1, 0, 9);
        due("1, 1, 0: one of none to TABLE 2", inn.change(0), 23);
        inn.sit(3, 2);
        due("two of TABLE 2 can't", inn.change(0), -1);
        due("nobody moved", inn.told(2, 4), 2);
        next("if less than now,");
        QuestionsInAnInn like = new QuestionsInAnInn();
        Inns.guest(like, 1, 0, 9);
        Inns.guest(like, 1, 1, 0);
        like.question(0, 5);
        due("1, 0, 0 or 0, 1, 0", like.change(0), -1);
        Inns.guest(like, 1, -1, 0);
        due("0, 0, 0 is less", like.change(0), 2);
        like.sit(2, 0);
        like.sit(0, -1);
        due("0 is the least", like.change(0), -1);
        next("of like ones the first:");
        QuestionsInAnInn two = new QuestionsInAnInn();
        Inns.guest(two, 1, 1, 9);
        Inns.guest(two, 1, -1, 0);
        Inns.guest(two, 1, -1, 0);
        two.question(0, 5);
        due("0 with 1, not with 2", two.change(0), 1);
        two.sit(0, -1);
        two.sit(2, 1);
        two.learn(0, 0, 0);
        two.learn(2, 0, 9);
        due("0 with 2, not 1 with 2", two.change(0), 2);
        next("10 times the lesser, and the other (what 0; -1: none),");
        QuestionsInAnInn seven = new QuestionsInAnInn();
        for (int p = 0; p < 7; p++) Inns.guest(seven, p, p < 6 ? 0 : -1, p == 5 ? 9 : 0);
        seven.question(0, 5);
        due("5 with 6", seven.change(0), 56);
        due("nobody", new QuestionsInAnInn().change(0), -1);
        seven.sit(6, 0);
        due("all sit at one, none can", seven.change(0), -1);
        seven.sit(5, -1);
        due("0 is the least", seven.change(0), -1);
        next("how far then (1; as now, if none).");
        due("as now, 0", seven.change(1), 0);
        due("then 0", two.change(1), 0);
        two.sit(1, 1);
        two.sit(0, 1);
        due("as now, 1", two.change(1), 1);
        due("nobody", new QuestionsInAnInn().change(1), 0);
        next("BAD.");
        for (int what : Inns.outside(0, 1)) due("what " + what, two.change(what), -2);
    }
}
