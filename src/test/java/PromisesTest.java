/** Each promise of the document: ordinary inputs, the edges that it names, wrong inputs. */
public final class PromisesTest {
    private static final int NUMBER = -1;
    private static final int FULL = -2;
    private static final int KIND = -3;
    private static final int NONE = -4;
    private static final int TWICE = -5;
    private static final int[] WRONG = {-1, Integer.MIN_VALUE, Integer.MAX_VALUE};

    private static int checks = 0;
    private static int wrong = 0;
    private static String about = "";

    private static void due(String call, int got, int want) {
        checks++;
        if (got != want) {
            wrong++;
            System.out.println(about + ": " + call + " answered " + got + ", due is " + want);
        }
    }

    /** A court whose clock is at that day. */
    private static VeinCourt courtOn(int day) {
        VeinCourt x = new VeinCourt();
        int left = day;
        while (left > 0) {
            int step = Math.min(left, 100);
            x.day(step);
            left -= step;
        }
        return x;
    }

    public static void main(String[] args) {
        newObject();
        day();
        rule();
        stake();
        stakeFull();
        work();
        nickRefusals();
        nicks();
        nicksOfOthers();
        taken();
        give();
        view();
        sell();
        dig();
        factsFull();
        withdraw();
        fact();
        owner();
        claim();
        of();
        share();
        feet();
        contested();
        dug();
        dueTithe();
        changed();
        many();
        keepAndBack();
        orderOfFacts();
        outermost();
        constants();
        System.out.println("promises: " + checks + " checks, " + wrong + " wrong");
        if (wrong != 0) {
            System.exit(1);
        }
    }

    private static void newObject() {
        about = "promise 1";
        VeinCourt x = new VeinCourt();
        int[] want = {0, 0, 0, 0, 5, 10};
        for (int what = 0; what < want.length; what++) {
            due("many(" + what + ")", x.many(what), want[what]);
        }
        due("back()", x.back(), NONE);
        due("fact(0, 0)", x.fact(0, 0), NUMBER);
        due("owner(0, 0, 0, 0)", x.owner(0, 0, 0, 0), NONE);
        due("feet(0, 999, 999)", x.feet(0, 999, 999), 0);
        due("dug(10, 999, 999)", x.dug(10, 999, 999), 0);
    }

    private static void day() {
        about = "promise 2";
        VeinCourt x = new VeinCourt();
        due("day(0)", x.day(0), 0);
        due("day(1)", x.day(1), 1);
        due("day(101)", x.day(101), NUMBER);
        for (int n : WRONG) {
            due("day(" + n + ")", x.day(n), NUMBER);
        }
        due("many(3)", x.many(3), 1);
        for (int i = 1; i <= 9; i++) {
            due("day(100)", x.day(100), 1 + 100 * i);
        }
        due("day(99)", x.day(99), NUMBER);
        due("day(98)", x.day(98), 999);
        due("day(1)", x.day(1), NUMBER);
        due("day(0)", x.day(0), 999);
        due("many(3)", x.many(3), 999);
    }

    private static void rule() {
        about = "promise 3";
        VeinCourt x = new VeinCourt();
        due("rule(0, 1)", x.rule(0, 1), 5);
        due("rule(0, 10)", x.rule(0, 10), 1);
        due("rule(0, 11)", x.rule(0, 11), NUMBER);
        due("rule(0, 0)", x.rule(0, 0), NUMBER);
        due("rule(1, 1)", x.rule(1, 1), 10);
        due("rule(1, 30)", x.rule(1, 30), 1);
        due("rule(1, 31)", x.rule(1, 31), NUMBER);
        due("rule(1, 0)", x.rule(1, 0), NUMBER);
        due("rule(2, 5)", x.rule(2, 5), NUMBER);
        for (int v : WRONG) {
            due("rule(0, " + v + ")", x.rule(0, v), NUMBER);
            due("rule(1, " + v + ")", x.rule(1, v), NUMBER);
            due("rule(" + v + ", 5)", x.rule(v, 5), NUMBER);
        }
        due("many(4)", x.many(4), 10);
        due("many(5)", x.many(5), 30);
    }

    private static void stake() {
        about = "promise 4";
        VeinCourt x = courtOn(7);
        due("stake(7, 3, 59, 9)", x.stake(7, 3, 59, 9), 0);
        due("stake(0, 0, 0, 0)", x.stake(0, 0, 0, 0), 1);
        due("stake(8, 0, 0, 0)", x.stake(8, 0, 0, 0), NUMBER);
        due("stake(0, 4, 0, 0)", x.stake(0, 4, 0, 0), NUMBER);
        due("stake(0, 0, 60, 0)", x.stake(0, 0, 60, 0), NUMBER);
        due("stake(0, 0, 0, 10)", x.stake(0, 0, 0, 10), NUMBER);
        for (int v : WRONG) {
            due("stake about " + v, x.stake(v, 0, 0, 0), NUMBER);
            due("stake vein " + v, x.stake(0, v, 0, 0), NUMBER);
            due("stake foot " + v, x.stake(0, 0, v, 0), NUMBER);
            due("stake miner " + v, x.stake(0, 0, 0, v), NUMBER);
        }
        due("many(0)", x.many(0), 2);
        due("of(0, 1)", x.of(0, 1, 7, 7), 54);
        due("of(0, 2)", x.of(0, 2, 7, 7), 59);
        due("of(1, 1)", x.of(1, 1, 7, 7), 0);
        due("of(1, 2)", x.of(1, 2, 7, 7), 5);
        x.rule(0, 1);
        due("stake(3, 1, 30, 4)", x.stake(3, 1, 30, 4), 2);
        x.rule(0, 10);
        due("of(2, 1)", x.of(2, 1, 7, 7), 29);
        due("of(2, 2)", x.of(2, 2, 7, 7), 31);
        due("of(2, 0)", x.of(2, 0, 7, 7), 4);
        due("of(2, 3)", x.of(2, 3, 7, 7), 3);
        due("share(2, 4)", x.share(2, 4, 7, 7), 24);
        due("of before its day", x.of(2, 0, 2, 7), NONE);
    }

    private static void stakeFull() {
        about = "promise 4, FULL";
        VeinCourt x = new VeinCourt();
        for (int i = 0; i < 20; i++) {
            due("stake " + i, x.stake(0, i % 4, i, i % 10), i);
        }
        due("stake 20", x.stake(0, 0, 0, 0), FULL);
        due("stake of no vein", x.stake(0, 4, 0, 0), NUMBER);
        due("work(0, 0)", x.work(0, 0), 20);
        due("all twenty stand", x.of(19, 0, 0, 0), 9);
        x.withdraw(0);
        due("stake, one withdrawn", x.stake(0, 0, 0, 0), FULL);
        due("many(1)", x.many(1), 20);
        due("owner of the last", x.owner(3, 24, 0, 0), 9);
    }

    private static void work() {
        about = "promise 5";
        VeinCourt x = courtOn(20);
        x.stake(2, 0, 30, 1);
        due("work(20, 0)", x.work(20, 0), 1);
        due("work(21, 0)", x.work(21, 0), NUMBER);
        due("work(20, 2)", x.work(20, 2), NUMBER);
        due("work(20, 1)", x.work(20, 1), KIND);
        due("work(21, 1)", x.work(21, 1), NUMBER);
        for (int v : WRONG) {
            due("work about " + v, x.work(v, 0), NUMBER);
            due("work claim " + v, x.work(20, v), NUMBER);
        }
        due("many(0)", x.many(0), 2);
        due("worked on 19", x.of(0, 3, 19, 20), 2);
        due("worked on 20", x.of(0, 3, 20, 20), 20);
        due("work ahead of the stake", x.work(1, 0), 2);
        due("it brings nothing", x.of(0, 3, 19, 20), 2);
        x.withdraw(0);
        due("work of a withdrawn one", x.work(5, 0), 3);
        due("it brings nothing", x.of(0, 3, 20, 20), NONE);
    }

    private static void nickRefusals() {
        about = "promise 6";
        VeinCourt x = courtOn(20);
        x.stake(0, 0, 30, 1);
        due("nick(20, 0, 2)", x.nick(20, 0, 2), 1);
        due("nick(20, 0, 1)", x.nick(20, 0, 1), 2);
        due("nick(21, 0, 2)", x.nick(21, 0, 2), NUMBER);
        due("nick(20, 3, 2)", x.nick(20, 3, 2), NUMBER);
        due("nick(20, 0, 10)", x.nick(20, 0, 10), NUMBER);
        due("nick(20, 1, 2)", x.nick(20, 1, 2), KIND);
        due("nick(20, 1, 10)", x.nick(20, 1, 10), NUMBER);
        for (int v : WRONG) {
            due("nick about " + v, x.nick(v, 0, 2), NUMBER);
            due("nick claim " + v, x.nick(20, v, 2), NUMBER);
            due("nick miner " + v, x.nick(20, 0, v), NUMBER);
        }
        due("many(0)", x.many(0), 3);
        due("one nick, none of the holder's", x.of(0, 5, 20, 20), 1);
    }

    private static void nicks() {
        about = "promise 6, terms NICK";
        VeinCourt x = courtOn(60);
        x.stake(0, 0, 30, 1);
        x.nick(10, 0, 2);
        due("not idle on 10", x.of(0, 5, 10, 60), 0);
        x.nick(11, 0, 2);
        due("idle on 11", x.of(0, 5, 11, 60), 1);
        x.nick(11, 0, 2);
        due("twice a day is once", x.of(0, 5, 11, 60), 1);
        x.nick(21, 0, 2);
        due("first is 10 back", x.of(0, 5, 21, 60), 2);
        x.nick(22, 0, 2);
        due("first is 11 back", x.of(0, 5, 22, 60), 1);
        due("still the holder", x.of(0, 0, 22, 60), 1);
        due("nicks stay till another comes", x.of(0, 5, 60, 60), 1);
        x.work(25, 0);
        due("work clears them", x.of(0, 5, 25, 60), 0);
        due("but not ahead of it", x.of(0, 5, 24, 60), 1);
        x.nick(35, 0, 2);
        due("10 behind the work", x.of(0, 5, 35, 60), 0);
        x.nick(36, 0, 2);
        due("11 behind the work", x.of(0, 5, 36, 60), 1);
        x.rule(1, 11);
        due("the rule when one asks", x.of(0, 5, 36, 60), 0);
    }

    private static void nicksOfOthers() {
        about = "promise 6, terms NICK of others";
        VeinCourt x = courtOn(60);
        x.stake(0, 0, 30, 1);
        x.nick(11, 0, 2);
        x.nick(12, 0, 2);
        x.nick(12, 0, 1);
        due("the holder's brings nothing", x.of(0, 5, 12, 60), 2);
        x.nick(12, 0, 3);
        due("another miner's clear them", x.of(0, 5, 12, 60), 1);
        x.nick(13, 0, 2);
        due("and back", x.of(0, 5, 13, 60), 1);
        x.nick(14, 0, 2);
        due("two", x.of(0, 5, 14, 60), 2);
        due("not taken", x.of(0, 0, 14, 60), 1);
        x.nick(15, 0, 2);
        due("taken", x.of(0, 0, 15, 60), 2);
        x.nick(16, 0, 1);
        due("not idle any more", x.of(0, 5, 16, 60), 0);
        x.nick(26, 0, 1);
        due("the old holder may nick", x.of(0, 5, 26, 60), 1);
    }

    private static void taken() {
        about = "promise 6, terms TAKEN";
        VeinCourt x = courtOn(60);
        x.stake(0, 0, 30, 1);
        x.stake(1, 0, 30, 7);
        x.sell(1, 0, 1, 3, 10);
        x.sell(1, 0, 1, 2, 4);
        x.nick(11, 0, 2);
        x.nick(12, 0, 2);
        x.nick(21, 0, 2);
        due("holder on 20", x.of(0, 0, 20, 60), 1);
        due("nicks on 20", x.of(0, 5, 20, 60), 2);
        due("holder on 21", x.of(0, 0, 21, 60), 2);
        due("nicks on 21", x.of(0, 5, 21, 60), 0);
        due("worked on 21", x.of(0, 3, 21, 60), 21);
        due("idle on 31", x.of(0, 4, 31, 60), 0);
        due("idle on 32", x.of(0, 4, 32, 60), 1);
        int[] want = {0, 0, 24, 0};
        for (int miner = 0; miner < want.length; miner++) {
            due("share of " + miner, x.share(0, miner, 21, 60), want[miner]);
        }
        due("share of 3 ahead of it", x.share(0, 3, 20, 60), 10);
        due("still the eldest", x.claim(0, 30, 60, 60), 0);
        due("its owner", x.owner(0, 30, 60, 60), 2);
    }

    private static void give() {
        about = "promise 7";
        VeinCourt x = courtOn(20);
        x.stake(2, 0, 30, 1);
        x.stake(3, 0, 30, 2);
        due("give(10, 0)", x.give(10, 0), 2);
        due("give(21, 0)", x.give(21, 0), NUMBER);
        due("give(20, 3)", x.give(20, 3), NUMBER);
        due("give(20, 2)", x.give(20, 2), KIND);
        for (int v : WRONG) {
            due("give about " + v, x.give(v, 0), NUMBER);
            due("give claim " + v, x.give(20, v), NUMBER);
        }
        due("many(0)", x.many(0), 3);
        due("owner on 9", x.owner(0, 30, 9, 20), 1);
        due("owner on 10", x.owner(0, 30, 10, 20), 2);
        due("contested on 9", x.contested(0, 9, 20), 11);
        due("contested on 10", x.contested(0, 10, 20), 0);
        due("given again", x.give(12, 0), 3);
        due("work brings nothing", x.work(15, 0), 4);
        due("it stays given", x.of(0, 3, 20, 20), NONE);
        due("share of it", x.share(0, 1, 20, 20), NONE);
        due("give ahead of the stake", x.give(2, 1), 5);
        due("brings nothing", x.of(1, 0, 20, 20), 2);
    }

    private static void view() {
        about = "promise 8";
        VeinCourt x = courtOn(20);
        x.stake(2, 1, 30, 1);
        due("view(10, 0, 0, 59)", x.view(10, 0, 0, 59), 1);
        due("view(12, 0, 7, 7)", x.view(12, 0, 7, 7), 2);
        due("view(21, 0, 0, 1)", x.view(21, 0, 0, 1), NUMBER);
        due("view(20, 3, 0, 1)", x.view(20, 3, 0, 1), NUMBER);
        due("view(20, 0, 8, 7)", x.view(20, 0, 8, 7), NUMBER);
        due("view(20, 0, 0, 60)", x.view(20, 0, 0, 60), NUMBER);
        due("view(20, 0, 60, 60)", x.view(20, 0, 60, 60), NUMBER);
        due("view(20, 1, 0, 1)", x.view(20, 1, 0, 1), KIND);
        due("view(20, 1, 8, 7)", x.view(20, 1, 8, 7), NUMBER);
        for (int v : WRONG) {
            due("view about " + v, x.view(v, 0, 0, 59), NUMBER);
            due("view claim " + v, x.view(20, v, 0, 59), NUMBER);
            due("view a " + v, x.view(20, 0, v, 59), NUMBER);
            due("view b " + v, x.view(20, 0, 0, v), NUMBER);
        }
        due("many(0)", x.many(0), 3);
        int[][] want = {{9, 25, 35}, {10, 0, 59}, {11, 0, 59}, {12, 7, 7}, {20, 7, 7}};
        for (int[] row : want) {
            due("first on " + row[0], x.of(0, 1, row[0], 20), row[1]);
            due("last on " + row[0], x.of(0, 2, row[0], 20), row[2]);
            due("feet on " + row[0], x.of(0, 6, row[0], 20), row[2] - row[1] + 1);
        }
        due("of another vein", x.owner(0, 7, 20, 20), NONE);
    }

    private static void sell() {
        about = "promise 9";
        VeinCourt x = courtOn(20);
        x.stake(2, 1, 30, 1);
        due("sell(3, 0, 1, 9, 24)", x.sell(3, 0, 1, 9, 24), 1);
        due("sell(4, 0, 9, 0, 1)", x.sell(4, 0, 9, 0, 1), 2);
        due("sell(5, 0, 9, 0, 24)", x.sell(5, 0, 9, 0, 24), 3);
        due("sell(6, 0, 9, 0, 23)", x.sell(6, 0, 9, 0, 23), 4);
        due("sell(21, 0, 1, 2, 3)", x.sell(21, 0, 1, 2, 3), NUMBER);
        due("sell(20, 5, 1, 2, 3)", x.sell(20, 5, 1, 2, 3), NUMBER);
        due("sell(20, 0, 10, 2, 3)", x.sell(20, 0, 10, 2, 3), NUMBER);
        due("sell(20, 0, 1, 10, 3)", x.sell(20, 0, 1, 10, 3), NUMBER);
        due("sell(20, 0, 2, 2, 3)", x.sell(20, 0, 2, 2, 3), NUMBER);
        due("sell(20, 0, 1, 2, 0)", x.sell(20, 0, 1, 2, 0), NUMBER);
        due("sell(20, 0, 1, 2, 25)", x.sell(20, 0, 1, 2, 25), NUMBER);
        due("sell(20, 1, 1, 2, 3)", x.sell(20, 1, 1, 2, 3), KIND);
        due("sell(20, 1, 2, 2, 3)", x.sell(20, 1, 2, 2, 3), NUMBER);
        for (int v : WRONG) {
            due("sell about " + v, x.sell(v, 0, 1, 2, 3), NUMBER);
            due("sell claim " + v, x.sell(20, v, 1, 2, 3), NUMBER);
            due("sell miner " + v, x.sell(20, 0, v, 2, 3), NUMBER);
            due("sell other " + v, x.sell(20, 0, 1, v, 3), NUMBER);
            due("sell n " + v, x.sell(20, 0, 1, 2, v), NUMBER);
        }
        due("many(0)", x.many(0), 5);
        int[][] want = {{2, 0, 24, 0}, {3, 0, 0, 24}, {4, 1, 0, 23}, {5, 1, 0, 23}, {6, 24, 0, 0}};
        for (int[] row : want) {
            due("share of 0 on " + row[0], x.share(0, 0, row[0], 20), row[1]);
            due("share of 1 on " + row[0], x.share(0, 1, row[0], 20), row[2]);
            due("share of 9 on " + row[0], x.share(0, 9, row[0], 20), row[3]);
        }
        due("the holder stays", x.of(0, 0, 20, 20), 1);
    }

    private static void dig() {
        about = "promise 10";
        VeinCourt x = courtOn(20);
        due("dig(20, 3, 59, 1000)", x.dig(20, 3, 59, 1000), 0);
        due("dig(0, 0, 0, 1)", x.dig(0, 0, 0, 1), 1);
        due("dig(21, 0, 0, 1)", x.dig(21, 0, 0, 1), NUMBER);
        due("dig(0, 4, 0, 1)", x.dig(0, 4, 0, 1), NUMBER);
        due("dig(0, 0, 60, 1)", x.dig(0, 0, 60, 1), NUMBER);
        due("dig(0, 0, 0, 0)", x.dig(0, 0, 0, 0), NUMBER);
        due("dig(0, 0, 0, 1001)", x.dig(0, 0, 0, 1001), NUMBER);
        for (int v : WRONG) {
            due("dig about " + v, x.dig(v, 0, 0, 1), NUMBER);
            due("dig vein " + v, x.dig(0, v, 0, 1), NUMBER);
            due("dig foot " + v, x.dig(0, 0, v, 1), NUMBER);
            due("dig n " + v, x.dig(0, 0, 0, v), NUMBER);
        }
        due("many(0)", x.many(0), 2);
        due("nobody's on 19", x.dug(10, 19, 20), 24);
        due("nobody's on 20", x.dug(10, 20, 20), 24024);
    }

    private static void factsFull() {
        about = "promises 4 to 10, FULL of 90 facts";
        VeinCourt x = new VeinCourt();
        x.stake(0, 0, 30, 1);
        for (int i = 1; i < 90; i++) {
            due("dig " + i, x.dig(0, 0, 30, 1000), i);
        }
        due("dig", x.dig(0, 0, 30, 1), FULL);
        due("stake", x.stake(0, 0, 30, 1), FULL);
        due("work", x.work(0, 0), FULL);
        due("nick", x.nick(0, 0, 1), FULL);
        due("give", x.give(0, 0), FULL);
        due("view", x.view(0, 0, 1, 2), FULL);
        due("sell", x.sell(0, 0, 1, 2, 3), FULL);
        due("dig, NUMBER first", x.dig(1, 0, 30, 1), NUMBER);
        due("stake, NUMBER first", x.stake(1, 0, 30, 1), NUMBER);
        due("work, KIND first", x.work(0, 1), KIND);
        due("nick, KIND first", x.nick(0, 1, 1), KIND);
        due("give, KIND first", x.give(0, 89), KIND);
        due("view, KIND first", x.view(0, 1, 1, 2), KIND);
        due("sell, KIND first", x.sell(0, 1, 1, 2, 3), KIND);
        due("sell, NUMBER first", x.sell(0, 90, 1, 2, 3), NUMBER);
        due("withdraw(89)", x.withdraw(89), 1);
        due("dig, one withdrawn", x.dig(0, 0, 30, 1), FULL);
        due("many(0)", x.many(0), 90);
        due("dug(1)", x.dug(1, 0, 0), 88 * 24000);
        due("due(1)", x.due(1, 0, 0), 8800);
    }

    private static void withdraw() {
        about = "promise 11";
        VeinCourt x = new VeinCourt();
        due("withdraw(0)", x.withdraw(0), NUMBER);
        x.stake(0, 0, 30, 1);
        x.day(3);
        x.work(2, 0);
        for (int v : WRONG) {
            due("withdraw(" + v + ")", x.withdraw(v), NUMBER);
        }
        due("withdraw(2)", x.withdraw(2), NUMBER);
        x.day(4);
        due("withdraw(1)", x.withdraw(1), 1);
        due("withdraw(1)", x.withdraw(1), TWICE);
        x.day(1);
        due("withdraw(1)", x.withdraw(1), TWICE);
        due("fact(1, 3)", x.fact(1, 3), 7);
        due("many(2)", x.many(2), 1);
        due("known on 2", x.of(0, 3, 5, 2), 0);
        due("known on 3", x.of(0, 3, 5, 3), 2);
        due("known on 6", x.of(0, 3, 5, 6), 2);
        due("known on 7", x.of(0, 3, 5, 7), 0);
        due("known on 999", x.of(0, 3, 999, 999), 0);
        x.give(8, 0);
        x.withdraw(2);
        due("told and withdrawn that day", x.of(0, 0, 8, 8), 1);
        due("withdraw(0)", x.withdraw(0), 1);
        due("stake of 0 gone", x.of(0, 0, 8, 8), NONE);
        due("known on 7", x.of(0, 0, 8, 7), 1);
        VeinCourt y = new VeinCourt();
        y.dig(0, 0, 0, 1);
        due("withdraw(0) on 0", y.withdraw(0), 1);
        due("fact(0, 3)", y.fact(0, 3), 0);
        due("withdraw(0) on 0", y.withdraw(0), TWICE);
        due("dug(10)", y.dug(10, 0, 0), 0);
    }

    private static void fact() {
        about = "promise 12";
        VeinCourt x = courtOn(20);
        x.stake(2, 3, 57, 1);
        x.day(5);
        x.work(3, 0);
        x.nick(4, 0, 2);
        x.give(25, 0);
        x.view(5, 0, 6, 7);
        x.sell(6, 0, 8, 9, 24);
        x.dig(7, 1, 33, 1000);
        x.day(1);
        x.withdraw(2);
        int[][] want = {
            {0, 2, 20, NONE, 3, 1, 52, 59, 0, 0},
            {1, 3, 25, NONE, 3, NONE, NONE, NONE, 0, 0},
            {2, 4, 25, 26, 3, 2, NONE, NONE, 0, 0},
            {3, 25, 25, NONE, 3, NONE, NONE, NONE, 0, 0},
            {4, 5, 25, NONE, 3, NONE, 6, 7, 0, 0},
            {5, 6, 25, NONE, 3, 8, NONE, NONE, 24, 0},
            {6, 7, 25, NONE, 1, NONE, 33, 33, 1000, NONE},
        };
        for (int fact = 0; fact < want.length; fact++) {
            for (int what = 0; what < 10; what++) {
                due("fact(" + fact + ", " + what + ")", x.fact(fact, what), want[fact][what]);
            }
            due("fact(" + fact + ", 10)", x.fact(fact, 10), NUMBER);
            for (int v : WRONG) {
                due("fact(" + fact + ", " + v + ")", x.fact(fact, v), NUMBER);
            }
        }
        due("fact(7, 0)", x.fact(7, 0), NUMBER);
        for (int v : WRONG) {
            due("fact(" + v + ", 0)", x.fact(v, 0), NUMBER);
        }
        due("a stake's feet as told", x.of(0, 1, 20, 26), 6);
        x.stake(0, 2, 1, 0);
        x.work(0, 7);
        due("fact(8, 9)", x.fact(8, 9), 7);
        due("fact(8, 4)", x.fact(8, 4), 2);
        due("fact(7, 9)", x.fact(7, 9), 7);
    }

    private static void owner() {
        about = "promise 13";
        VeinCourt x = courtOn(20);
        x.stake(5, 0, 30, 1);
        x.stake(5, 0, 32, 2);
        x.stake(4, 0, 34, 3);
        int[] want = {NONE, 1, 1, 1, 1, 3, 3, 3};
        for (int i = 0; i < want.length; i++) {
            due("owner of " + (24 + i), x.owner(0, 24 + i, 20, 20), want[i]);
        }
        due("owner of 39", x.owner(0, 39, 20, 20), 3);
        due("owner of 40", x.owner(0, 40, 20, 20), NONE);
        due("owner on 4", x.owner(0, 29, 4, 20), 3);
        due("owner on 3", x.owner(0, 29, 3, 20), NONE);
        due("known on 19", x.owner(0, 29, 20, 19), NONE);
        due("owner in 999", x.owner(0, 29, 999, 999), 3);
        due("of another vein", x.owner(1, 29, 20, 20), NONE);
        wrongPlaces(x, true);
    }

    private static void wrongPlaces(VeinCourt x, boolean holder) {
        int[][] calls = {{4, 0, 0, 0}, {0, 60, 0, 0}, {0, 0, 1000, 0}, {0, 0, 0, 1000}};
        for (int[] c : calls) {
            int got = holder ? x.owner(c[0], c[1], c[2], c[3]) : x.claim(c[0], c[1], c[2], c[3]);
            due("wrong place or day", got, NUMBER);
        }
        for (int v : WRONG) {
            due("vein " + v, holder ? x.owner(v, 0, 0, 0) : x.claim(v, 0, 0, 0), NUMBER);
            due("foot " + v, holder ? x.owner(0, v, 0, 0) : x.claim(0, v, 0, 0), NUMBER);
            due("day " + v, holder ? x.owner(0, 0, v, 0) : x.claim(0, 0, v, 0), NUMBER);
            due("known " + v, holder ? x.owner(0, 0, 0, v) : x.claim(0, 0, 0, v), NUMBER);
        }
    }

    private static void claim() {
        about = "promise 14";
        VeinCourt x = courtOn(20);
        x.dig(0, 0, 0, 1);
        x.stake(5, 0, 30, 1);
        x.stake(5, 0, 32, 2);
        x.stake(4, 0, 34, 3);
        due("claim of 28", x.claim(0, 28, 20, 20), 1);
        due("claim of 29", x.claim(0, 29, 20, 20), 3);
        due("claim of 24", x.claim(0, 24, 20, 20), NONE);
        x.withdraw(3);
        due("the less number of a day", x.claim(0, 30, 20, 20), 1);
        due("past the first", x.claim(0, 36, 20, 20), 2);
        wrongPlaces(x, false);
    }

    private static void of() {
        about = "promise 15";
        VeinCourt x = courtOn(20);
        x.stake(5, 0, 30, 1);
        x.stake(3, 0, 37, 2);
        x.dig(0, 0, 0, 1);
        int[] want = {1, 25, 35, 5, 0, 0, 7};
        for (int what = 0; what < want.length; what++) {
            due("of(0, " + what + ")", x.of(0, what, 15, 20), want[what]);
        }
        due("idle on 16", x.of(0, 4, 16, 20), 1);
        due("of what 7", x.of(0, 7, 20, 20), NUMBER);
        due("of fact 3", x.of(3, 0, 20, 20), NUMBER);
        due("of a dig", x.of(2, 0, 20, 20), KIND);
        due("of a dig, what 7", x.of(2, 7, 20, 20), NUMBER);
        due("of a dig, day 1000", x.of(2, 0, 1000, 20), NUMBER);
        due("of known 1000", x.of(0, 0, 20, 1000), NUMBER);
        due("of day 4", x.of(0, 0, 4, 20), NONE);
        due("of known 19", x.of(0, 0, 20, 19), NONE);
        due("of a dig, known 19", x.of(2, 0, 20, 19), KIND);
        for (int v : WRONG) {
            due("of fact " + v, x.of(v, 0, 20, 20), NUMBER);
            due("of what " + v, x.of(0, v, 20, 20), NUMBER);
            due("of day " + v, x.of(0, 0, v, 20), NUMBER);
            due("of known " + v, x.of(0, 0, 20, v), NUMBER);
        }
    }

    private static void share() {
        about = "promise 16";
        VeinCourt x = courtOn(20);
        x.stake(5, 0, 30, 1);
        x.dig(0, 0, 0, 1);
        x.sell(6, 0, 1, 2, 5);
        due("share of 1", x.share(0, 1, 20, 20), 19);
        due("share of 2", x.share(0, 2, 20, 20), 5);
        due("share of 3", x.share(0, 3, 20, 20), 0);
        due("share on 4", x.share(0, 1, 4, 20), NONE);
        due("share of miner 10", x.share(0, 10, 20, 20), NUMBER);
        due("share of fact 3", x.share(3, 1, 20, 20), NUMBER);
        due("share of a dig", x.share(1, 1, 20, 20), KIND);
        due("share of a dig, miner 10", x.share(1, 10, 20, 20), NUMBER);
        due("share on 1000", x.share(0, 1, 1000, 20), NUMBER);
        due("share known 1000", x.share(0, 1, 20, 1000), NUMBER);
        for (int v : WRONG) {
            due("share fact " + v, x.share(v, 1, 20, 20), NUMBER);
            due("share miner " + v, x.share(0, v, 20, 20), NUMBER);
            due("share day " + v, x.share(0, 1, v, 20), NUMBER);
            due("share known " + v, x.share(0, 1, 20, v), NUMBER);
        }
    }

    private static void feet() {
        about = "promise 17";
        VeinCourt x = courtOn(20);
        x.stake(5, 0, 30, 1);
        x.stake(6, 0, 31, 2);
        x.stake(6, 3, 59, 2);
        x.sell(7, 2, 2, 1, 24);
        due("feet of 1", x.feet(1, 20, 20), 11);
        due("feet of 2", x.feet(2, 20, 20), 7);
        due("feet of 2 on 5", x.feet(2, 5, 20), 0);
        due("feet of 0", x.feet(0, 20, 20), 0);
        due("feet of 10", x.feet(10, 20, 20), NUMBER);
        due("feet on 1000", x.feet(1, 1000, 20), NUMBER);
        due("feet known 1000", x.feet(1, 20, 1000), NUMBER);
        for (int v : WRONG) {
            due("feet of " + v, x.feet(v, 20, 20), NUMBER);
            due("feet on " + v, x.feet(1, v, 20), NUMBER);
            due("feet known " + v, x.feet(1, 20, v), NUMBER);
        }
    }

    private static void contested() {
        about = "promise 18";
        VeinCourt x = courtOn(20);
        x.stake(5, 2, 30, 1);
        x.stake(6, 2, 38, 1);
        x.stake(7, 2, 35, 1);
        x.stake(7, 1, 35, 1);
        due("contested on 5", x.contested(2, 5, 20), 0);
        due("contested on 6", x.contested(2, 6, 20), 3);
        due("contested on 7", x.contested(2, 7, 20), 11);
        due("contested of 1", x.contested(1, 7, 20), 0);
        due("known on 19", x.contested(2, 7, 19), 0);
        due("contested of 4", x.contested(4, 7, 20), NUMBER);
        due("contested on 1000", x.contested(2, 1000, 20), NUMBER);
        due("contested known 1000", x.contested(2, 7, 1000), NUMBER);
        for (int v : WRONG) {
            due("contested of " + v, x.contested(v, 20, 20), NUMBER);
            due("contested on " + v, x.contested(1, v, 20), NUMBER);
            due("contested known " + v, x.contested(1, 20, v), NUMBER);
        }
    }

    private static void dug() {
        about = "promise 19";
        VeinCourt x = courtOn(20);
        x.dig(5, 0, 30, 2);
        x.stake(5, 0, 30, 1);
        x.stake(5, 0, 30, 4);
        x.dig(5, 0, 35, 3);
        x.sell(6, 1, 1, 2, 7);
        x.sell(6, 1, 1, 3, 2);
        x.dig(6, 0, 25, 10);
        x.give(7, 1);
        x.dig(7, 0, 25, 1);
        x.dig(7, 1, 25, 1000);
        int[][] want = {
            {4, 0, 0, 0, 0, 0},
            {5, 72, 0, 0, 0, 48},
            {6, 222, 70, 20, 0, 48},
            {20, 222, 70, 20, 24, 24048},
        };
        int[] who = {1, 2, 3, 4, 10};
        for (int[] row : want) {
            for (int i = 0; i < who.length; i++) {
                due("dug of " + who[i] + " on " + row[0], x.dug(who[i], row[0], 20), row[i + 1]);
            }
        }
        due("dug of 0", x.dug(0, 20, 20), 0);
        due("dug known on 19", x.dug(10, 20, 19), 0);
        due("dug of 11", x.dug(11, 20, 20), NUMBER);
        due("dug on 1000", x.dug(1, 1000, 20), NUMBER);
        due("dug known 1000", x.dug(1, 20, 1000), NUMBER);
        for (int v : WRONG) {
            due("dug of " + v, x.dug(v, 20, 20), NUMBER);
            due("dug on " + v, x.dug(1, v, 20), NUMBER);
            due("dug known " + v, x.dug(1, 20, v), NUMBER);
        }
    }

    private static void dueTithe() {
        about = "promise 20";
        VeinCourt x = courtOn(20);
        x.stake(1, 0, 30, 1);
        x.dig(2, 0, 30, 9);
        due("due of 9 measures", x.due(1, 20, 20), 0);
        x.dig(3, 0, 30, 1);
        due("due of 10 measures", x.due(1, 20, 20), 1);
        x.dig(4, 0, 30, 1000);
        due("due of 1010 measures", x.due(1, 20, 20), 101);
        x.sell(5, 0, 1, 2, 13);
        x.dig(6, 0, 30, 19);
        due("due of 247 parts", x.due(2, 20, 20), 1);
        due("dug of 2", x.dug(2, 20, 20), 247);
        due("due of none", x.due(0, 20, 20), 0);
        due("due of 10", x.due(10, 20, 20), NUMBER);
        due("due on 1000", x.due(1, 1000, 20), NUMBER);
        due("due known 1000", x.due(1, 20, 1000), NUMBER);
        for (int v : WRONG) {
            due("due of " + v, x.due(v, 20, 20), NUMBER);
            due("due on " + v, x.due(1, v, 20), NUMBER);
            due("due known " + v, x.due(1, 20, v), NUMBER);
        }
    }

    private static void changed() {
        about = "promise 21";
        VeinCourt x = new VeinCourt();
        x.stake(0, 0, 30, 1);
        x.day(1);
        x.stake(0, 3, 0, 2);
        x.day(1);
        x.withdraw(0);
        x.stake(1, 0, 30, 1);
        x.day(1);
        x.withdraw(2);
        x.stake(1, 0, 32, 5);
        due("changed(5, 0, 0)", x.changed(5, 0, 0), 0);
        due("one or none", x.changed(5, 0, 1), 6);
        due("none or one", x.changed(5, 1, 0), 6);
        due("another claim of the same holder", x.changed(5, 1, 2), 0);
        due("another holder", x.changed(5, 2, 3), 13);
        due("for an early day", x.changed(0, 2, 3), 0);
        due("for an early day", x.changed(0, 1, 2), 11);
        due("changed(999, 999, 3)", x.changed(999, 999, 3), 0);
        due("changed(1000, 0, 0)", x.changed(1000, 0, 0), NUMBER);
        due("changed(0, 1000, 0)", x.changed(0, 1000, 0), NUMBER);
        due("changed(0, 0, 1000)", x.changed(0, 0, 1000), NUMBER);
        for (int v : WRONG) {
            due("changed on " + v, x.changed(v, 0, 0), NUMBER);
            due("changed known " + v, x.changed(0, v, 0), NUMBER);
            due("changed other " + v, x.changed(0, 0, v), NUMBER);
        }
    }

    private static void many() {
        about = "promise 22";
        VeinCourt x = courtOn(20);
        x.stake(5, 0, 30, 1);
        x.stake(5, 0, 30, 1);
        x.work(6, 0);
        x.dig(6, 0, 30, 1);
        x.withdraw(1);
        x.withdraw(2);
        x.withdraw(3);
        x.rule(0, 3);
        x.rule(1, 4);
        int[] want = {4, 2, 3, 20, 3, 4};
        for (int what = 0; what < want.length; what++) {
            due("many(" + what + ")", x.many(what), want[what]);
        }
        due("many(6)", x.many(6), NUMBER);
        for (int v : WRONG) {
            due("many(" + v + ")", x.many(v), NUMBER);
        }
    }

    private static void keepAndBack() {
        about = "promises 23, 24";
        VeinCourt x = courtOn(20);
        due("back()", x.back(), NONE);
        x.stake(5, 0, 30, 1);
        x.work(9, 0);
        due("keep()", x.keep(), 1);
        x.day(10);
        x.stake(3, 0, 30, 2);
        x.work(4, 0);
        x.withdraw(0);
        x.rule(0, 2);
        x.rule(1, 3);
        due("back()", x.back(), 1);
        int[] want = {2, 1, 0, 20, 2, 3};
        for (int what = 0; what < want.length; what++) {
            due("many(" + what + ")", x.many(what), want[what]);
        }
        due("fact(0, 3)", x.fact(0, 3), NONE);
        due("fact(2, 0)", x.fact(2, 0), NUMBER);
        due("owner", x.owner(0, 30, 20, 20), 1);
        due("worked on 8", x.of(0, 3, 8, 20), 5);
        due("worked on 9", x.of(0, 3, 9, 20), 9);
        due("give(6, 0)", x.give(6, 0), 2);
        due("of a given one", x.of(0, 0, 20, 20), NONE);
        due("back() again", x.back(), 1);
        due("of it", x.of(0, 0, 20, 20), 1);
        x.withdraw(1);
        x.day(1);
        due("keep()", x.keep(), 1);
        x.day(1);
        due("back()", x.back(), 1);
        due("kept latest", x.many(2), 1);
        due("its clock", x.many(3), 21);
        due("the withdrawal's day", x.fact(1, 3), 20);
    }

    private static void orderOfFacts() {
        about = "promise 13, terms the order";
        VeinCourt x = courtOn(20);
        x.stake(5, 0, 30, 1);
        x.sell(9, 0, 2, 3, 24);
        x.sell(8, 0, 1, 2, 24);
        due("by day, not by number", x.share(0, 3, 20, 20), 24);
        x.sell(9, 0, 4, 5, 24);
        x.sell(9, 0, 3, 4, 24);
        due("of one day by number", x.share(0, 4, 20, 20), 24);
        x.view(7, 0, 0, 5);
        x.view(6, 0, 10, 15);
        due("the later view holds", x.of(0, 1, 20, 20), 0);
        due("the early one till then", x.of(0, 1, 6, 20), 10);
    }

    private static void outermost() {
        about = "promises 17 to 21, the first and the last of all";
        VeinCourt x = new VeinCourt();
        x.rule(0, 1);
        x.stake(0, 0, 0, 0);
        x.stake(0, 0, 0, 9);
        x.stake(0, 3, 59, 0);
        x.stake(0, 3, 59, 9);
        due("feet of 0", x.feet(0, 0, 0), 4);
        due("contested of 0", x.contested(0, 0, 0), 2);
        due("contested of 3", x.contested(3, 0, 0), 2);
        x.dig(0, 0, 0, 5);
        x.dig(0, 3, 59, 6);
        due("dug of 0", x.dug(0, 0, 0), 264);
        due("dug of 0 again", x.dug(0, 0, 0), 264);
        due("dug of 9", x.dug(9, 0, 0), 0);
        x.day(1);
        x.withdraw(0);
        x.withdraw(2);
        due("many(2)", x.many(2), 2);
        due("changed(1, 0, 1)", x.changed(1, 0, 1), 4);
        due("feet of 9", x.feet(9, 1, 1), 4);
        due("dug of 9", x.dug(9, 1, 1), 264);
    }

    private static void constants() {
        about = "the constants";
        due("NUMBER", VeinCourt.NUMBER, NUMBER);
        due("FULL", VeinCourt.FULL, FULL);
        due("KIND", VeinCourt.KIND, KIND);
        due("NONE", VeinCourt.NONE, NONE);
        due("TWICE", VeinCourt.TWICE, TWICE);
    }
}
