import java.util.Arrays;
import java.util.function.Supplier;

/**
 * Promises 2 to 24: a refused call changes nothing, of several refusals the first one named is answered; and the edges
 * of what is kept.
 */
public final class EdgesOfRefusalsTest {
    private static final int NUMBER = Checks.NUMBER;
    private static final int FULL = Checks.FULL;
    private static final int KIND = Checks.KIND;
    private static final int NONE = Checks.NONE;
    private static final int TWICE = Checks.TWICE;

    private static final String NOTHING = "A call that is refused (answers below 0, where not told otherwise) changes "
            + "nothing.";
    private static final String FIRST = "Of several refusals that a call names the first one named is answered.";

    private static final Checks C = new Checks("edges of refusals");

    public static void main(String[] args) {
        refusedByNumber();
        refusedByKind();
        refusedByFull();
        refusedByNone();
        questionsChangeNothing();
        firstOfStakeAndDig();
        firstOfClaimsFacts();
        firstOfQuestions();
        keepOfNothing();
        keepOfClockAndFacts();
        keepIsACopy();
        keepLatest();
        keepOfFullCourts();
        rulesAreNotKept();
        backWithoutKeep();
        C.end();
    }

    /** A court with a fact of each kind, told on several days, some withdrawn, and something else kept. */
    private static VeinCourt busyCourt() {
        VeinCourt x = Checks.courtOn(40);
        x.stake(2, 1, 30, 1);
        x.keep();
        x.stake(3, 1, 36, 4);
        x.sell(4, 0, 1, 3, 4);
        x.day(5);
        x.view(6, 1, 20, 50);
        x.dig(7, 1, 30, 5);
        x.nick(20, 0, 2);
        x.nick(21, 0, 2);
        x.day(1);
        x.nick(22, 0, 2);
        x.work(30, 1);
        x.give(46, 1);
        x.withdraw(2);
        x.rule(0, 7);
        x.rule(1, 9);
        return x;
    }

    /** All that may be asked of a small court, in less than 400 calls; what was kept comes last. */
    private static int[] answers(VeinCourt x) {
        int[] all = new int[400];
        int at = 0;
        for (int what = 0; what < 6; what++) {
            all[at++] = x.many(what);
        }
        for (int fact = 0; fact < 11; fact++) {
            for (int what = 0; what < 10; what++) {
                all[at++] = x.fact(fact, what);
            }
        }
        int[] knowns = {40, 45, 999};
        for (int known : knowns) {
            for (int miner = 0; miner <= 10; miner++) {
                all[at++] = x.dug(miner, 999, known);
                all[at++] = x.share(0, miner, 40, known);
            }
            for (int what = 0; what < 7; what++) {
                all[at++] = x.of(0, what, 40, known);
                all[at++] = x.of(1, what, 40, known);
            }
            all[at++] = x.changed(40, known, 46);
        }
        all[at++] = x.dig(0, 0, 0, 1);
        all[at++] = x.back();
        for (int what = 0; what < 6; what++) {
            all[at++] = x.many(what);
        }
        for (int what = 0; what < 10; what++) {
            all[at++] = x.fact(0, what);
        }
        return all;
    }

    /** The call is refused so, and the court answers all then as one on which it wasn't made. */
    private static void refused(int promise, String call, Supplier<VeinCourt> made, Checks.Call refused, int want) {
        C.sentence(promise, NOTHING);
        VeinCourt x = made.get();
        C.due(call, refused.on(x), want);
        boolean same = Arrays.equals(answers(x), answers(made.get()));
        C.due("all is as before " + call, same ? 1 : 0, 1);
    }

    private static void refusedInBusyCourt(int promise, String call, Checks.Call refused, int want) {
        refused(promise, call, EdgesOfRefusalsTest::busyCourt, refused, want);
    }

    private static void refusedByNumber() {
        refusedInBusyCourt(2, "day(101)", x -> x.day(101), NUMBER);
        refusedInBusyCourt(2, "day(-1)", x -> x.day(-1), NUMBER);
        refused(2, "day(1) on 999", () -> Checks.courtOn(999), x -> x.day(1), NUMBER);
        refusedInBusyCourt(3, "rule(0, 11)", x -> x.rule(0, 11), NUMBER);
        refusedInBusyCourt(3, "rule(1, 31)", x -> x.rule(1, 31), NUMBER);
        refusedInBusyCourt(3, "rule(2, 5)", x -> x.rule(2, 5), NUMBER);
        refusedInBusyCourt(4, "stake(47, ..)", x -> x.stake(47, 0, 0, 0), NUMBER);
        refusedInBusyCourt(4, "stake of miner 10", x -> x.stake(46, 0, 0, 10), NUMBER);
        refusedInBusyCourt(5, "work(47, 0)", x -> x.work(47, 0), NUMBER);
        refusedInBusyCourt(5, "work(46, 11)", x -> x.work(46, 11), NUMBER);
        refusedInBusyCourt(6, "nick(46, 0, 10)", x -> x.nick(46, 0, 10), NUMBER);
        refusedInBusyCourt(7, "give(47, 0)", x -> x.give(47, 0), NUMBER);
        refusedInBusyCourt(8, "view(46, 0, 2, 1)", x -> x.view(46, 0, 2, 1), NUMBER);
        refusedInBusyCourt(9, "sell(46, 0, 1, 1, 1)", x -> x.sell(46, 0, 1, 1, 1), NUMBER);
        refusedInBusyCourt(9, "sell(46, 0, 1, 2, 25)", x -> x.sell(46, 0, 1, 2, 25), NUMBER);
        refusedInBusyCourt(10, "dig(46, 0, 0, 1001)", x -> x.dig(46, 0, 0, 1001), NUMBER);
        refusedInBusyCourt(11, "withdraw(10)", x -> x.withdraw(10), NUMBER);
        refusedInBusyCourt(11, "withdraw(2)", x -> x.withdraw(2), TWICE);
    }

    private static void refusedByKind() {
        refusedInBusyCourt(5, "work(46, 4)", x -> x.work(46, 4), KIND);
        refusedInBusyCourt(6, "nick(46, 4, 1)", x -> x.nick(46, 4, 1), KIND);
        refusedInBusyCourt(7, "give(46, 4)", x -> x.give(46, 4), KIND);
        refusedInBusyCourt(8, "view(46, 4, 1, 2)", x -> x.view(46, 4, 1, 2), KIND);
        refusedInBusyCourt(9, "sell(46, 4, 1, 2, 3)", x -> x.sell(46, 4, 1, 2, 3), KIND);
    }

    private static void refusedByFull() {
        Supplier<VeinCourt> ninety = Checks::courtOfNinety;
        refused(4, "stake, 90 FACTS", ninety, x -> x.stake(20, 0, 0, 0), FULL);
        refused(4, "stake, 20 STAKES", Checks::courtOfTwentyStakes, x -> x.stake(20, 0, 0, 0), FULL);
        refused(5, "work, 90 FACTS", ninety, x -> x.work(20, 0), FULL);
        refused(6, "nick, 90 FACTS", ninety, x -> x.nick(20, 0, 2), FULL);
        refused(7, "give, 90 FACTS", ninety, x -> x.give(20, 0), FULL);
        refused(8, "view, 90 FACTS", ninety, x -> x.view(20, 0, 1, 2), FULL);
        refused(9, "sell, 90 FACTS", ninety, x -> x.sell(20, 0, 1, 2, 3), FULL);
        refused(10, "dig, 90 FACTS", ninety, x -> x.dig(20, 0, 30, 1), FULL);
    }

    private static void refusedByNone() {
        refused(24, "back()", Checks::courtOfAllKinds, x -> x.back(), NONE);
    }

    private static void questionsChangeNothing() {
        Checks.Call[] questions = {
            x -> x.fact(0, 3), x -> x.fact(99, 0), x -> x.owner(1, 30, 46, 46), x -> x.owner(4, 0, 0, 0),
            x -> x.claim(1, 30, 46, 46), x -> x.claim(1, 60, 46, 46), x -> x.of(0, 6, 46, 46), x -> x.of(4, 0, 46, 46),
            x -> x.share(0, 1, 46, 46), x -> x.share(0, 10, 46, 46), x -> x.feet(1, 46, 46), x -> x.feet(10, 46, 46),
            x -> x.contested(1, 46, 46), x -> x.contested(4, 46, 46), x -> x.dug(10, 46, 46), x -> x.dug(11, 46, 46),
            x -> x.due(1, 46, 46), x -> x.due(10, 46, 46), x -> x.changed(46, 46, 45), x -> x.changed(46, 46, 1000),
            x -> x.many(2), x -> x.many(6),
        };
        int[] promises = {12, 12, 13, 13, 14, 14, 15, 15, 16, 16, 17, 17, 18, 18, 19, 19, 20, 20, 21, 21, 22, 22};
        int[] want = answers(busyCourt());
        for (int i = 0; i < questions.length; i++) {
            C.sentence(promises[i], NOTHING);
            VeinCourt x = busyCourt();
            int once = questions[i].on(x);
            C.due("question " + i + " asked again", questions[i].on(x), once);
            C.due("all is as before question " + i, Arrays.equals(answers(x), want) ? 1 : 0, 1);
        }
    }

    private static void firstOfStakeAndDig() {
        C.sentence(4, FIRST);
        VeinCourt x = Checks.courtOfNinety();
        C.due("stake about no day, and FULL", x.stake(21, 0, 0, 0), NUMBER);
        C.due("stake of no vein, and FULL", x.stake(20, 4, 0, 0), NUMBER);
        C.due("stake of no foot, and FULL", x.stake(20, 0, 60, 0), NUMBER);
        C.due("stake of no miner, and FULL", x.stake(20, 0, 0, 10), NUMBER);
        VeinCourt y = Checks.courtOfTwentyStakes();
        C.due("stake of no miner, and 20 STAKES", y.stake(20, 0, 0, 10), NUMBER);
        C.due("stake, 20 STAKES", y.stake(20, 0, 0, 0), FULL);
        C.sentence(10, FIRST);
        C.due("dig about no day, and FULL", x.dig(21, 0, 0, 1), NUMBER);
        C.due("dig of no vein, and FULL", x.dig(20, 4, 0, 1), NUMBER);
        C.due("dig of no foot, and FULL", x.dig(20, 0, 60, 1), NUMBER);
        C.due("dig of no measures, and FULL", x.dig(20, 0, 0, 0), NUMBER);
    }

    private static void firstOfClaimsFacts() {
        VeinCourt x = Checks.courtOfNinety();
        C.sentence(5, FIRST);
        C.due("work about no day, and KIND", x.work(21, 1), NUMBER);
        C.due("work of no fact, and FULL", x.work(20, 90), NUMBER);
        C.due("work, KIND and FULL", x.work(20, 1), KIND);
        C.sentence(6, FIRST);
        C.due("nick about no day, and KIND", x.nick(21, 1, 2), NUMBER);
        C.due("nick by no miner, and KIND", x.nick(20, 1, 10), NUMBER);
        C.due("nick by no miner, and FULL", x.nick(20, 0, 10), NUMBER);
        C.due("nick, KIND and FULL", x.nick(20, 1, 2), KIND);
        C.sentence(7, FIRST);
        C.due("give about no day, and KIND", x.give(21, 1), NUMBER);
        C.due("give, KIND and FULL", x.give(20, 89), KIND);
        C.sentence(8, FIRST);
        C.due("view about no day, and KIND", x.view(21, 1, 1, 2), NUMBER);
        C.due("view of no foot, and KIND", x.view(20, 1, 1, 60), NUMBER);
        C.due("view, a above b, and FULL", x.view(20, 0, 2, 1), NUMBER);
        C.due("view, KIND and FULL", x.view(20, 1, 1, 2), KIND);
        C.sentence(9, FIRST);
        C.due("sell about no day, and KIND", x.sell(21, 1, 1, 2, 3), NUMBER);
        C.due("sell from no miner, and KIND", x.sell(20, 1, 10, 2, 3), NUMBER);
        C.due("sell to no miner, and KIND", x.sell(20, 1, 1, 10, 3), NUMBER);
        C.due("sell to the same one, and KIND", x.sell(20, 1, 1, 1, 3), NUMBER);
        C.due("sell none, and FULL", x.sell(20, 0, 1, 2, 0), NUMBER);
        C.due("sell, KIND and FULL", x.sell(20, 1, 1, 2, 3), KIND);
    }

    private static void firstOfQuestions() {
        VeinCourt x = Checks.courtOfAllKinds();
        C.sentence(15, FIRST);
        for (int kind = 0; kind <= 6; kind++) {
            C.due("what 7 of kind " + kind, x.of(kind, 7, 20, 20), NUMBER);
            C.due("day 1000 of kind " + kind, x.of(kind, 0, 1000, 20), NUMBER);
            C.due("known 1000 of kind " + kind, x.of(kind, 0, 20, 1000), NUMBER);
        }
        C.due("KIND of what isn't known", x.of(6, 0, 20, 19), KIND);
        C.due("KIND ahead of its day", x.of(6, 0, 0, 20), KIND);
        C.sentence(16, FIRST);
        for (int kind = 0; kind <= 6; kind++) {
            C.due("miner 10 of kind " + kind, x.share(kind, 10, 20, 20), NUMBER);
            C.due("day 1000 of kind " + kind, x.share(kind, 1, 1000, 20), NUMBER);
            C.due("known 1000 of kind " + kind, x.share(kind, 1, 20, 1000), NUMBER);
        }
        C.due("KIND of what isn't known", x.share(6, 1, 20, 19), KIND);
        C.sentence(13, FIRST);
        C.due("no vein, and none there", x.owner(4, 0, 20, 20), NUMBER);
        C.due("no day, and none there", x.owner(0, 0, 1000, 20), NUMBER);
        C.sentence(14, FIRST);
        C.due("no foot, and none there", x.claim(0, 60, 20, 20), NUMBER);
        C.due("no known, and none there", x.claim(0, 0, 20, 1000), NUMBER);
    }

    private static void keepOfNothing() {
        C.sentence(23, "THE CLOCK and all FACTS are kept: 1.");
        VeinCourt x = new VeinCourt();
        C.due("keep() of a new one", x.keep(), 1);
        x.day(100);
        x.stake(50, 0, 30, 1);
        C.due("back()", x.back(), 1);
        for (int what = 0; what < 4; what++) {
            C.due("many(" + what + ")", x.many(what), 0);
        }
        C.due("fact(0, 0)", x.fact(0, 0), NUMBER);
        C.due("owner", x.owner(0, 30, 999, 999), NONE);
        C.due("about 1 is ahead of THE CLOCK again", x.stake(1, 0, 30, 1), NUMBER);
        C.due("numbers are from 0 again", x.stake(0, 0, 30, 2), 0);
    }

    private static void keepOfClockAndFacts() {
        C.sentence(24, "They become what was kept latest");
        VeinCourt x = busyCourt();
        C.due("many(0)", x.many(0), 10);
        C.due("back()", x.back(), 1);
        int[] want = {1, 1, 0, 40};
        for (int what = 0; what < want.length; what++) {
            C.due("many(" + what + ")", x.many(what), want[what]);
        }
        C.due("fact(1, 0)", x.fact(1, 0), NUMBER);
        C.due("the next number", x.dig(40, 0, 0, 1), 1);
        C.due("its kind", x.fact(1, 0), 6);
        C.due("no NICK is left of those told later", x.of(0, 5, 40, 40), 0);
        C.due("no SALE is left", x.share(0, 1, 40, 40), 24);
        C.due("about 41", x.work(41, 0), NUMBER);
    }

    private static void keepIsACopy() {
        C.sentence(24, "what was kept latest (which stays): 1.");
        VeinCourt x = Checks.courtOn(20);
        x.stake(5, 0, 30, 1);
        x.stake(6, 0, 33, 2);
        x.keep();
        for (int round = 0; round < 3; round++) {
            x.day(round);
            x.withdraw(0);
            x.stake(4, 0, 30, 3);
            x.give(20, 1);
            C.due("owner, round " + round, x.owner(0, 30, 20, 999), 3);
            C.due("back(), round " + round, x.back(), 1);
            C.due("owner behind it", x.owner(0, 30, 20, 20), 1);
            C.due("withdrawn", x.fact(0, 3), NONE);
            C.due("many(0)", x.many(0), 2);
            C.due("many(1)", x.many(1), 2);
            C.due("many(2)", x.many(2), 0);
            C.due("many(3)", x.many(3), 20);
        }
        C.due("back() twice", x.back(), 1);
        C.due("many(0)", x.many(0), 2);
        VeinCourt y = Checks.courtOn(20);
        y.stake(5, 0, 30, 1);
        y.withdraw(0);
        y.keep();
        y.day(1);
        y.back();
        C.due("a kept one that is WITHDRAWN is so", y.withdraw(0), TWICE);
        C.due("on that DAY", y.fact(0, 3), 20);
    }

    private static void keepLatest() {
        C.sentence(23, "kept latest");
        VeinCourt x = Checks.courtOn(20);
        x.stake(5, 0, 30, 1);
        C.due("keep()", x.keep(), 1);
        x.stake(4, 0, 30, 2);
        x.day(1);
        C.due("keep() again", x.keep(), 1);
        x.stake(3, 0, 30, 3);
        x.day(1);
        C.due("back()", x.back(), 1);
        C.due("owner", x.owner(0, 30, 20, 999), 2);
        C.due("many(3)", x.many(3), 21);
        C.due("back() again goes no farther", x.back(), 1);
        C.due("many(0)", x.many(0), 2);
        x.back();
        C.due("keep() behind a back()", x.keep(), 1);
        C.due("many(0)", x.many(0), 2);
    }

    private static void keepOfFullCourts() {
        C.sentence(24, "They become what was kept latest");
        VeinCourt x = Checks.courtOn(20);
        x.stake(5, 0, 30, 1);
        x.keep();
        for (int fact = 1; fact < 90; fact++) {
            x.dig(20, 0, 30, 1);
        }
        C.due("FULL", x.work(20, 0), FULL);
        x.back();
        C.due("not FULL any more", x.work(20, 0), 1);
        C.due("dug", x.dug(1, 20, 20), 0);
        VeinCourt y = Checks.courtOn(20);
        y.keep();
        for (int i = 0; i < 20; i++) {
            y.stake(20, 0, 30, 1);
        }
        C.due("20 STAKES", y.stake(20, 0, 30, 1), FULL);
        y.back();
        C.due("none of them", y.stake(20, 0, 30, 1), 0);
        C.due("many(1)", y.many(1), 1);
        VeinCourt z = Checks.courtOfNinety();
        z.keep();
        z.withdraw(89);
        z.back();
        C.due("90 FACTS are kept", z.many(0), 90);
        C.due("FULL again", z.dig(20, 0, 30, 1), FULL);
        C.due("the last one isn't WITHDRAWN", z.fact(89, 3), NONE);
        C.due("dug", z.dug(1, 20, 20), 89 * 24000);
    }

    private static void rulesAreNotKept() {
        C.sentence(24, "THE CLOCK and all FACTS are kept: 1.");
        VeinCourt x = Checks.courtOn(20);
        x.stake(0, 0, 30, 1);
        x.nick(11, 0, 2);
        x.keep();
        x.rule(0, 10);
        x.rule(1, 11);
        x.back();
        C.due("L stays what it was made", x.many(4), 10);
        C.due("I stays what it was made", x.many(5), 11);
        C.due("NICKS by I as it is", x.of(0, 5, 20, 20), 0);
        C.due("FEET of a STAKE as it was TOLD", x.of(0, 1, 20, 20), 25);
    }

    private static void backWithoutKeep() {
        C.sentence(24, "NONE: nothing is kept.");
        VeinCourt x = Checks.courtOfAllKinds();
        C.due("back()", x.back(), NONE);
        C.due("back() again", x.back(), NONE);
        C.due("many(0)", x.many(0), 7);
        C.due("many(3)", x.many(3), 20);
        C.due("keep()", x.keep(), 1);
        C.due("back()", x.back(), 1);
    }
}
