/** Promises 1 to 12, what is told: each sentence of them that names an edge. */
public final class EdgesOfTellingTest {
    private static final int NUMBER = Checks.NUMBER;
    private static final int FULL = Checks.FULL;
    private static final int KIND = Checks.KIND;
    private static final int NONE = Checks.NONE;
    private static final int TWICE = Checks.TWICE;

    private static final Checks C = new Checks("edges of telling");

    public static void main(String[] args) {
        newObject();
        dayNumbers();
        dayAbove999();
        ruleOfL();
        ruleOfI();
        ruleOfAnother();
        factNumbers();
        stakeAbout();
        stakeNumbers();
        stakeFullOfFacts();
        stakeFullOfStakes();
        work();
        nick();
        give();
        viewNumbers();
        viewFeet();
        sellNumbers();
        sellShares();
        dig();
        withdraw();
        factNumbersAndWhats();
        factOfEachKind();
        factWithdrawn();
        factFeetAsTold();
        C.end();
    }

    private static void newObject() {
        C.sentence(1, "THE CLOCK is 0");
        VeinCourt x = new VeinCourt();
        C.due("many(3)", x.many(3), 0);
        C.due("stake about 1", x.stake(1, 0, 0, 0), NUMBER);
        C.due("day(0)", x.day(0), 0);
        C.sentence(1, "no FACTS");
        for (int what = 0; what < 3; what++) {
            C.due("many(" + what + ")", x.many(what), 0);
        }
        C.due("fact(0, 0)", x.fact(0, 0), NUMBER);
        C.due("withdraw(0)", x.withdraw(0), NUMBER);
        C.due("work(0, 0)", x.work(0, 0), NUMBER);
        C.due("of(0, 0, 0, 0)", x.of(0, 0, 0, 0), NUMBER);
        C.due("share(0, 0, 0, 0)", x.share(0, 0, 0, 0), NUMBER);
        C.sentence(1, "nothing is kept");
        C.due("back()", x.back(), NONE);
        C.sentence(1, "at first there are no CLAIMS");
        for (int miner = 0; miner < 10; miner++) {
            C.due("feet(" + miner + ")", x.feet(miner, 999, 999), 0);
            C.due("dug(" + miner + ")", x.dug(miner, 999, 999), 0);
        }
        C.due("dug(10)", x.dug(10, 999, 999), 0);
        C.due("owner(0, 0, 0, 0)", x.owner(0, 0, 0, 0), NONE);
        C.due("claim(3, 59, 999, 999)", x.claim(3, 59, 999, 999), NONE);
        C.due("changed(999, 0, 999)", x.changed(999, 0, 999), 0);
        C.sentence(1, "A new object");
        VeinCourt used = Checks.courtOfAllKinds();
        used.keep();
        VeinCourt beside = new VeinCourt();
        C.due("many(0) of one made beside a used one", beside.many(0), 0);
        C.due("back() of it", beside.back(), NONE);
        C.due("many(0) of the used one", used.many(0), 7);
    }

    private static void dayNumbers() {
        C.sentence(2, "THE CLOCK goes on by n DAYS (0 to 100): the DAY.");
        VeinCourt x = new VeinCourt();
        C.due("day(0)", x.day(0), 0);
        C.due("day(1)", x.day(1), 1);
        C.due("day(99)", x.day(99), 100);
        C.due("day(100)", x.day(100), 200);
        C.due("day(0)", x.day(0), 200);
        C.sentence(2, "NUMBER: n isn't as told");
        C.noSuch(x, "day", (c, v) -> c.day(v), 101);
        C.due("many(3)", x.many(3), 200);
    }

    private static void dayAbove999() {
        C.sentence(2, "or it would be above 999");
        VeinCourt x = Checks.courtOn(900);
        C.due("900 and 100", x.day(100), NUMBER);
        C.due("900 and 99", x.day(99), 999);
        C.due("999 and 1", x.day(1), NUMBER);
        C.due("999 and 100", x.day(100), NUMBER);
        C.due("999 and 0", x.day(0), 999);
        C.noSuch(x, "day", (c, v) -> c.day(v), 101);
        VeinCourt y = Checks.courtOn(899);
        C.due("899 and 100", y.day(100), 999);
    }

    private static void ruleOfL() {
        C.sentence(3, "L is 1 to 10, 5 at first");
        VeinCourt x = new VeinCourt();
        C.due("rule(0, 5)", x.rule(0, 5), 5);
        C.due("rule(0, 1)", x.rule(0, 1), 5);
        C.due("rule(0, 10)", x.rule(0, 10), 1);
        C.due("rule(0, 10) again", x.rule(0, 10), 10);
        C.due("rule(0, 0)", x.rule(0, 0), NUMBER);
        C.due("rule(0, 30), which I may be", x.rule(0, 30), NUMBER);
        C.noSuch(x, "rule 0", (c, v) -> c.rule(0, v), 11);
        C.due("many(4)", x.many(4), 10);
        C.due("many(5)", x.many(5), 10);
    }

    private static void ruleOfI() {
        C.sentence(3, "I is 1 to 30, 10 at first");
        VeinCourt x = new VeinCourt();
        C.due("rule(1, 10)", x.rule(1, 10), 10);
        C.due("rule(1, 1)", x.rule(1, 1), 10);
        C.due("rule(1, 30)", x.rule(1, 30), 1);
        C.due("rule(1, 30) again", x.rule(1, 30), 30);
        C.due("rule(1, 0)", x.rule(1, 0), NUMBER);
        C.noSuch(x, "rule 1", (c, v) -> c.rule(1, v), 31);
        C.due("many(5)", x.many(5), 30);
        C.due("many(4)", x.many(4), 5);
    }

    private static void ruleOfAnother() {
        C.sentence(3, "NUMBER: another what");
        VeinCourt x = new VeinCourt();
        for (int v : new int[] {1, 5, 10, 30}) {
            C.noSuch(x, "rule what, " + v, (c, what) -> c.rule(what, v), 2);
        }
        C.due("many(4)", x.many(4), 5);
        C.due("many(5)", x.many(5), 10);
    }

    private static void factNumbers() {
        C.sentence(4, "FACTS are numbered from 0 as they are told");
        VeinCourt x = Checks.courtOn(20);
        C.due("stake", x.stake(9, 0, 30, 1), 0);
        C.due("a refused one takes no number", x.stake(21, 0, 30, 1), NUMBER);
        C.due("stake about an earlier day", x.stake(3, 0, 30, 1), 1);
        C.due("work", x.work(9, 1), 2);
        C.due("nick", x.nick(9, 1, 2), 3);
        C.due("give", x.give(9, 1), 4);
        C.due("view", x.view(9, 1, 1, 2), 5);
        C.due("sell", x.sell(9, 1, 1, 2, 3), 6);
        C.due("dig", x.dig(9, 0, 30, 1), 7);
        x.withdraw(7);
        C.due("a withdrawn one keeps its number", x.dig(9, 0, 30, 1), 8);
    }

    private static void stakeAbout() {
        C.sentence(4, "NUMBER: about isn't 0 to THE CLOCK");
        VeinCourt x = Checks.courtOn(7);
        C.due("about THE CLOCK", x.stake(7, 0, 0, 0), 0);
        C.due("about 0", x.stake(0, 0, 0, 0), 1);
        C.noSuch(x, "stake about", (c, v) -> c.stake(v, 0, 0, 0), 8);
        x.day(1);
        C.due("about THE CLOCK, a day on", x.stake(8, 0, 0, 0), 2);
        VeinCourt last = Checks.courtOn(999);
        C.due("about 999", last.stake(999, 0, 0, 0), 0);
        C.due("about 1000", last.stake(1000, 0, 0, 0), NUMBER);
    }

    private static void stakeNumbers() {
        C.sentence(4, "or there is no such VEIN, FOOT, MINER");
        VeinCourt x = Checks.courtOn(7);
        C.due("the least ones", x.stake(7, 0, 0, 0), 0);
        C.due("the greatest ones", x.stake(7, 3, 59, 9), 1);
        C.noSuch(x, "stake vein", (c, v) -> c.stake(7, v, 0, 0), 4);
        C.noSuch(x, "stake foot", (c, v) -> c.stake(7, 0, v, 0), 60);
        C.noSuch(x, "stake miner", (c, v) -> c.stake(7, 0, 0, v), 10);
        C.due("many(0)", x.many(0), 2);
    }

    private static void stakeFullOfFacts() {
        C.sentence(4, "FULL: there are 90 FACTS");
        VeinCourt x = Checks.courtOn(1);
        for (int fact = 0; fact < 89; fact++) {
            C.due("dig " + fact, x.dig(0, 0, 0, 1), fact);
        }
        C.due("the 90th", x.stake(0, 0, 0, 0), 89);
        C.due("the 91st", x.stake(0, 0, 0, 0), FULL);
        C.due("it stands", x.of(89, 0, 0, 1), 0);
        x.withdraw(0);
        C.due("withdrawn ones are FACTS too", x.stake(0, 0, 0, 0), FULL);
        C.due("many(0)", x.many(0), 90);
        C.due("many(1)", x.many(1), 1);
    }

    private static void stakeFullOfStakes() {
        C.sentence(4, "or 20 STAKES");
        VeinCourt x = new VeinCourt();
        for (int fact = 0; fact < 20; fact++) {
            C.due("stake " + fact, x.stake(0, 0, 0, 0), fact);
        }
        C.due("the 21st", x.stake(0, 0, 0, 0), FULL);
        C.due("others are told still", x.give(0, 0), 20);
        C.due("a given up one is a STAKE too", x.stake(0, 0, 0, 0), FULL);
        x.withdraw(1);
        C.due("a withdrawn one is a STAKE too", x.stake(0, 0, 0, 0), FULL);
        C.due("dig", x.dig(0, 0, 0, 1), 21);
        C.due("many(1)", x.many(1), 20);
        C.due("the last one stands", x.of(19, 0, 0, 0), 0);
        C.due("contested by eighteen", x.contested(0, 0, 0), 6);
    }

    /** What NUMBER, KIND, FULL as of work() ask of a fact of a claim: about, claim, the kinds, 90 facts. */
    private static void asOfWork(int promise, String call, ClaimCall told) {
        C.sentence(promise, "NUMBER: about isn't 0 to THE CLOCK");
        VeinCourt x = Checks.courtOn(20);
        x.stake(2, 1, 30, 1);
        C.due(call + " about 0", told.on(x, 0, 0), 1);
        C.due(call + " about THE CLOCK", told.on(x, 20, 0), 2);
        C.noSuch(x, call + " about", (c, v) -> told.on(c, v, 0), 21);
        C.sentence(promise, "or there is no such FACT");
        C.noSuch(x, call + " claim", (c, v) -> told.on(c, 20, v), 3);
        C.due(call + " claim 90", told.on(x, 20, 90), NUMBER);
        C.due("many(0)", x.many(0), 3);
        C.sentence(promise, "KIND: that is no STAKE");
        VeinCourt y = Checks.courtOfAllKinds();
        for (int kind = 1; kind <= 6; kind++) {
            C.due(call + " of kind " + kind, told.on(y, 20, kind), KIND);
        }
        C.due(call + " of the STAKE, which is given up", told.on(y, 20, 0), 7);
        y.withdraw(0);
        C.due(call + " of the STAKE, which is withdrawn", told.on(y, 20, 0), 8);
        C.sentence(promise, "FULL");
        VeinCourt z = Checks.courtOfNinety();
        C.due(call + " the 91st", told.on(z, 20, 0), FULL);
        VeinCourt w = Checks.courtOn(20);
        w.stake(0, 0, 30, 1);
        for (int fact = 1; fact < 90; fact++) {
            C.due(call + " " + fact, told.on(w, 20, 0), fact);
        }
        C.due(call + " the 91st", told.on(w, 20, 0), FULL);
        C.due("many(0)", w.many(0), 90);
    }

    /** A fact of a claim, its other arguments being as they may be. */
    private interface ClaimCall {
        int on(VeinCourt x, int about, int claim);
    }

    private static void work() {
        asOfWork(5, "work", (x, about, claim) -> x.work(about, claim));
    }

    private static void nick() {
        asOfWork(6, "nick", (x, about, claim) -> x.nick(about, claim, 2));
        C.sentence(6, "or there is no such MINER");
        VeinCourt x = Checks.courtOn(20);
        x.stake(2, 1, 30, 1);
        C.due("nick by 0", x.nick(20, 0, 0), 1);
        C.due("nick by 9", x.nick(20, 0, 9), 2);
        C.due("nick by its HOLDER is told too", x.nick(20, 0, 1), 3);
        C.noSuch(x, "nick miner", (c, v) -> c.nick(20, 0, v), 10);
        C.due("many(0)", x.many(0), 4);
    }

    private static void give() {
        asOfWork(7, "give", (x, about, claim) -> x.give(about, claim));
    }

    private static void viewNumbers() {
        asOfWork(8, "view", (x, about, claim) -> x.view(about, claim, 26, 34));
    }

    private static void viewFeet() {
        C.sentence(8, "or a or b is no FOOT");
        VeinCourt x = Checks.courtOn(20);
        x.stake(2, 1, 30, 1);
        C.due("view from 0 to 59", x.view(20, 0, 0, 59), 1);
        C.noSuch(x, "view a", (c, v) -> c.view(20, 0, v, 59), 60);
        C.noSuch(x, "view b", (c, v) -> c.view(20, 0, 0, v), 60);
        C.noSuch(x, "view a and b", (c, v) -> c.view(20, 0, v, v), 60);
        C.sentence(8, "or a is above b");
        C.due("view from 0 to 0", x.view(20, 0, 0, 0), 2);
        C.due("view from 59 to 59", x.view(20, 0, 59, 59), 3);
        C.due("view from 30 to 31", x.view(20, 0, 30, 31), 4);
        C.due("view from 31 to 30", x.view(20, 0, 31, 30), NUMBER);
        C.due("view from 59 to 0", x.view(20, 0, 59, 0), NUMBER);
        C.due("view from 1 to 0", x.view(20, 0, 1, 0), NUMBER);
        C.due("many(0)", x.many(0), 5);
    }

    private static void sellNumbers() {
        asOfWork(9, "sell", (x, about, claim) -> x.sell(about, claim, 1, 2, 3));
        C.sentence(9, "or there is no such MINER (either)");
        VeinCourt x = Checks.courtOn(20);
        x.stake(2, 1, 30, 1);
        C.due("sell from 0 to 9", x.sell(20, 0, 0, 9, 1), 1);
        C.due("sell from 9 to 0", x.sell(20, 0, 9, 0, 1), 2);
        C.noSuch(x, "sell from", (c, v) -> c.sell(20, 0, v, 2, 1), 10);
        C.noSuch(x, "sell to", (c, v) -> c.sell(20, 0, 2, v, 1), 10);
        C.sentence(9, "they are the same");
        for (int miner = 0; miner < 10; miner++) {
            C.due("sell from and to " + miner, x.sell(20, 0, miner, miner, 1), NUMBER);
        }
        C.due("many(0)", x.many(0), 3);
    }

    private static void sellShares() {
        C.sentence(9, "or n isn't 1 to 24");
        VeinCourt x = Checks.courtOn(20);
        x.stake(2, 1, 30, 1);
        C.due("sell 1", x.sell(20, 0, 1, 2, 1), 1);
        C.due("sell 24, more than it has, is told too", x.sell(20, 0, 1, 2, 24), 2);
        C.due("sell 0", x.sell(20, 0, 1, 2, 0), NUMBER);
        C.noSuch(x, "sell n", (c, v) -> c.sell(20, 0, 1, 2, v), 25);
        C.due("many(0)", x.many(0), 3);
    }

    private static void dig() {
        C.sentence(10, "NUMBER: about isn't 0 to THE CLOCK");
        VeinCourt x = Checks.courtOn(20);
        C.due("dig about 0", x.dig(0, 0, 0, 1), 0);
        C.due("dig about THE CLOCK", x.dig(20, 3, 59, 1000), 1);
        C.noSuch(x, "dig about", (c, v) -> c.dig(v, 0, 0, 1), 21);
        C.sentence(10, "there is no such VEIN, FOOT");
        C.noSuch(x, "dig vein", (c, v) -> c.dig(20, v, 0, 1), 4);
        C.noSuch(x, "dig foot", (c, v) -> c.dig(20, 0, v, 1), 60);
        C.sentence(10, "or n isn't 1 to 1000");
        C.due("dig 0", x.dig(20, 0, 0, 0), NUMBER);
        C.noSuch(x, "dig n", (c, v) -> c.dig(20, 0, 0, v), 1001);
        C.due("many(0)", x.many(0), 2);
        C.sentence(10, "FULL");
        for (int fact = 2; fact < 90; fact++) {
            C.due("dig " + fact, x.dig(20, 0, 0, 1), fact);
        }
        C.due("the 91st", x.dig(20, 0, 0, 1), FULL);
        x.withdraw(89);
        C.due("withdrawn ones are FACTS too", x.dig(20, 0, 0, 1), FULL);
        C.due("many(0)", x.many(0), 90);
    }

    private static void withdraw() {
        C.sentence(11, "NUMBER: there is none such");
        VeinCourt x = Checks.courtOfAllKinds();
        C.noSuch(x, "withdraw", (c, v) -> c.withdraw(v), 7);
        C.due("withdraw(90)", x.withdraw(90), NUMBER);
        C.due("many(2)", x.many(2), 0);
        C.sentence(11, "A FACT is WITHDRAWN: 1.");
        for (int kind = 6; kind >= 0; kind--) {
            C.due("withdraw of kind " + kind, x.withdraw(kind), 1);
            C.due("many(2)", x.many(2), 7 - kind);
        }
        C.sentence(11, "TWICE: it is.");
        x.day(1);
        for (int kind = 0; kind <= 6; kind++) {
            C.due("withdraw of kind " + kind, x.withdraw(kind), TWICE);
            C.due("its day stays", x.fact(kind, 3), 20);
        }
        C.due("many(2)", x.many(2), 7);
        VeinCourt y = new VeinCourt();
        y.dig(0, 0, 0, 1);
        C.due("withdraw on day 0", y.withdraw(0), 1);
        C.due("again on day 0", y.withdraw(0), TWICE);
        VeinCourt z = Checks.courtOfNinety();
        C.due("withdraw the 90th", z.withdraw(89), 1);
        C.due("withdraw the 91st", z.withdraw(90), NUMBER);
    }

    private static void factNumbersAndWhats() {
        C.sentence(12, "NUMBER: there is none such, another what.");
        VeinCourt x = Checks.courtOfAllKinds();
        for (int what = 0; what < 10; what++) {
            int w = what;
            C.noSuch(x, "fact what " + what, (c, v) -> c.fact(v, w), 7);
        }
        for (int fact = 0; fact < 7; fact++) {
            int f = fact;
            C.noSuch(x, "fact " + fact, (c, v) -> c.fact(f, v), 10);
        }
        VeinCourt z = Checks.courtOfNinety();
        C.due("the 90th", z.fact(89, 0), 6);
        C.due("the 91st", z.fact(90, 0), NUMBER);
    }

    private static void factOfEachKind() {
        C.sentence(12, "NONE without");
        VeinCourt x = Checks.courtOfAllKinds();
        int[] miners = {1, NONE, 2, NONE, NONE, 1, NONE};
        int[] firsts = {25, NONE, NONE, NONE, 26, NONE, 30};
        int[] lasts = {35, NONE, NONE, NONE, 34, NONE, 30};
        int[] amounts = {0, 0, 0, 0, 0, 4, 5};
        int[] claims = {0, 0, 0, 0, 0, 0, NONE};
        for (int kind = 0; kind <= 6; kind++) {
            C.due("fact(" + kind + ", 5)", x.fact(kind, 5), miners[kind]);
        }
        C.sentence(12, "the FOOT of a DIG (both; NONE of others)");
        for (int kind = 0; kind <= 6; kind++) {
            C.due("fact(" + kind + ", 6)", x.fact(kind, 6), firsts[kind]);
            C.due("fact(" + kind + ", 7)", x.fact(kind, 7), lasts[kind]);
        }
        C.sentence(12, "8 n of a SALE, a DIG (0 of others)");
        for (int kind = 0; kind <= 6; kind++) {
            C.due("fact(" + kind + ", 8)", x.fact(kind, 8), amounts[kind]);
        }
        C.sentence(12, "9 its CLAIM (its own number of a STAKE, NONE of a DIG)");
        for (int kind = 0; kind <= 6; kind++) {
            C.due("fact(" + kind + ", 9)", x.fact(kind, 9), claims[kind]);
        }
        C.due("stake", x.stake(20, 3, 0, 9), 7);
        C.due("view", x.view(20, 7, 0, 59), 8);
        C.due("fact(7, 9)", x.fact(7, 9), 7);
        C.due("fact(8, 9)", x.fact(8, 9), 7);
        C.sentence(12, "4 its VEIN (of a CLAIM's that of the CLAIM)");
        for (int kind = 0; kind <= 6; kind++) {
            C.due("fact(" + kind + ", 4)", x.fact(kind, 4), 1);
        }
        C.due("fact(8, 4)", x.fact(8, 4), 3);
        C.sentence(12, "what = 0 its KIND, 1 the DAY that it is about");
        int[] abouts = {2, 3, 4, 20, 5, 6, 7};
        for (int kind = 0; kind <= 6; kind++) {
            C.due("fact(" + kind + ", 0)", x.fact(kind, 0), kind);
            C.due("fact(" + kind + ", 1)", x.fact(kind, 1), abouts[kind]);
        }
    }

    private static void factWithdrawn() {
        C.sentence(12, "2 that on which it was TOLD, 3 that on which it was WITHDRAWN (NONE: it wasn't)");
        VeinCourt x = new VeinCourt();
        x.dig(0, 0, 0, 1);
        x.dig(0, 0, 0, 1);
        x.withdraw(0);
        for (int i = 0; i < 10; i++) {
            x.day(i < 9 ? 100 : 99);
        }
        x.dig(0, 0, 0, 1);
        x.withdraw(2);
        C.due("withdrawn on day 0", x.fact(0, 3), 0);
        C.due("not withdrawn", x.fact(1, 3), NONE);
        C.due("withdrawn on day 999", x.fact(2, 3), 999);
        C.due("told on day 0", x.fact(0, 2), 0);
        C.due("told on day 999", x.fact(2, 2), 999);
        C.due("about day 0", x.fact(2, 1), 0);
        C.due("a withdrawn one is told of still", x.fact(2, 0), 6);
    }

    private static void factFeetAsTold() {
        C.sentence(12, "6, 7 the first and last FOOT of a STAKE as it was TOLD, or of a VIEW");
        VeinCourt x = Checks.courtOn(60);
        x.stake(0, 2, 2, 4);
        x.view(1, 0, 0, 59);
        x.rule(0, 1);
        x.nick(20, 0, 5);
        x.nick(21, 0, 5);
        x.nick(22, 0, 5);
        C.due("first behind a VIEW", x.fact(0, 6), 0);
        C.due("last behind a VIEW", x.fact(0, 7), 7);
        C.due("its MINER behind a TAKING", x.fact(0, 5), 4);
        C.due("the HOLDER is another by then", x.of(0, 0, 60, 60), 5);
        C.due("first of the VIEW", x.fact(1, 6), 0);
        C.due("last of the VIEW", x.fact(1, 7), 59);
    }
}
