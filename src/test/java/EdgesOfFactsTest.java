/** Promises 4 to 11, what the facts bring: each sentence of the Terms that names an edge. */
public final class EdgesOfFactsTest {
    private static final int NONE = Checks.NONE;

    private static final Checks C = new Checks("edges of facts");

    public static void main(String[] args) {
        stakeFeet();
        stakeFeetByRule();
        stakeBeginsClaim();
        aboutThatDayOrEarlier();
        orderOfFacts();
        ofClaimThatDoesNotStandYet();
        ofClaimThatDoesNotStandAnyMore();
        ofClaimWhoseStakeIsNotKnown();
        work();
        idle();
        idleByRule();
        nickOfIdle();
        nickByHolder();
        nickByAnother();
        nickTenDaysBack();
        nickTwiceOnOneDay();
        nickThird();
        giveUp();
        view();
        sale();
        eldest();
        digOfOwner();
        digOfNobody();
        knownFromTold();
        knownToWithdrawn();
        C.end();
    }

    private static void feetAre(VeinCourt x, int claim, int first, int last) {
        int day = x.many(3);
        C.due("first foot of " + claim, x.of(claim, 1, day, day), first);
        C.due("last foot of " + claim, x.of(claim, 2, day, day), last);
        C.due("first foot of " + claim + " as told", x.fact(claim, 6), first);
        C.due("last foot of " + claim + " as told", x.fact(claim, 7), last);
    }

    private static void stakeFeet() {
        C.sentence(4, "over the FEET from F - L to F + L (those that there are");
        int[][] rows = {
            {5, 0, 0, 5}, {5, 4, 0, 9}, {5, 5, 0, 10}, {5, 6, 1, 11}, {5, 30, 25, 35},
            {5, 53, 48, 58}, {5, 54, 49, 59}, {5, 55, 50, 59}, {5, 59, 54, 59},
            {1, 0, 0, 1}, {1, 1, 0, 2}, {1, 58, 57, 59}, {1, 59, 58, 59},
            {10, 0, 0, 10}, {10, 10, 0, 20}, {10, 11, 1, 21}, {10, 49, 39, 59}, {10, 50, 40, 59}, {10, 59, 49, 59},
        };
        VeinCourt x = new VeinCourt();
        for (int i = 0; i < rows.length; i++) {
            x.rule(0, rows[i][0]);
            C.due("stake", x.stake(0, i % 4, rows[i][1], 0), i);
            feetAre(x, i, rows[i][2], rows[i][3]);
        }
        VeinCourt y = new VeinCourt();
        y.stake(0, 1, 59, 7);
        y.stake(0, 3, 0, 8);
        C.due("the next vein's first foot", y.owner(2, 0, 0, 0), NONE);
        C.due("the vein before's last foot", y.owner(2, 59, 0, 0), NONE);
        C.due("feet of 7", y.feet(7, 0, 0), 6);
        C.due("feet of 8", y.feet(8, 0, 0), 6);
    }

    private static void stakeFeetByRule() {
        C.sentence(4, "as THE RULE is when it is TOLD");
        VeinCourt x = new VeinCourt();
        x.stake(0, 0, 30, 1);
        x.rule(0, 10);
        feetAre(x, 0, 25, 35);
        x.stake(0, 0, 30, 1);
        x.rule(0, 1);
        feetAre(x, 0, 25, 35);
        feetAre(x, 1, 20, 40);
    }

    private static void stakeBeginsClaim() {
        C.sentence(4, "STAKE: the CLAIM STANDS; its MINER is its HOLDER, and has 24 SHARES; it was WORKED that DAY.");
        VeinCourt x = Checks.courtOn(20);
        x.stake(5, 0, 30, 9);
        C.due("on the day before", x.of(0, 0, 4, 20), NONE);
        C.due("its HOLDER that DAY", x.of(0, 0, 5, 20), 9);
        C.due("its MINER's SHARES", x.share(0, 9, 5, 20), 24);
        C.due("another one's", x.share(0, 0, 5, 20), 0);
        C.due("WORKED", x.of(0, 3, 5, 20), 5);
        C.due("NICKS", x.of(0, 5, 5, 20), 0);
        C.due("WORKED, not on the day when it was TOLD", x.of(0, 3, 999, 20), 5);
        C.sentence(4, "a CLAIM (its number is the FACT's)");
        x.dig(0, 0, 0, 1);
        x.stake(5, 1, 30, 9);
        C.due("claim", x.claim(1, 30, 5, 20), 2);
    }

    private static void aboutThatDayOrEarlier() {
        C.sentence(13, "the FACTS that are KNOWN on k and about d or earlier DAYS");
        VeinCourt x = Checks.courtOn(999);
        x.stake(0, 0, 30, 1);
        x.stake(999, 1, 30, 2);
        x.view(500, 0, 30, 30);
        C.due("about 0, for 0", x.owner(0, 30, 0, 999), 1);
        C.due("about 0, for 999", x.owner(0, 30, 999, 999), 1);
        C.due("about 999, for 998", x.owner(1, 30, 998, 999), NONE);
        C.due("about 999, for 999", x.owner(1, 30, 999, 999), 2);
        C.due("about 500, for 499", x.of(0, 6, 499, 999), 11);
        C.due("about 500, for 500", x.of(0, 6, 500, 999), 1);
        C.due("about 500, for 501", x.of(0, 6, 501, 999), 1);
    }

    private static void orderOfFacts() {
        C.sentence(13, "are gone through by the DAYS that they are about, of one DAY by their numbers");
        VeinCourt x = Checks.courtOn(20);
        x.stake(5, 0, 30, 1);
        x.view(9, 0, 1, 1);
        x.view(8, 0, 2, 2);
        C.due("by the DAYS", x.of(0, 1, 20, 20), 1);
        x.view(9, 0, 3, 3);
        C.due("of one DAY by their numbers", x.of(0, 1, 20, 20), 3);
        x.view(10, 0, 4, 4);
        x.view(9, 0, 5, 5);
        C.due("told last, about an earlier DAY", x.of(0, 1, 20, 20), 4);
        C.due("for that DAY", x.of(0, 1, 9, 20), 5);
        C.due("for the DAY before", x.of(0, 1, 8, 20), 2);
        x.view(5, 0, 6, 6);
        C.due("about the STAKE's DAY, behind it", x.of(0, 1, 5, 20), 6);
        VeinCourt y = Checks.courtOn(20);
        y.dig(5, 0, 30, 1);
        y.stake(5, 0, 30, 1);
        y.dig(5, 0, 30, 2);
        y.dig(4, 0, 30, 4);
        C.due("dug behind the STAKE", y.dug(1, 20, 20), 48);
        C.due("dug ahead of it", y.dug(10, 20, 20), 120);
    }

    /** A court on 60 with a claim of miner 1 that is idle from day 31 on, and two nicks of it by 2. */
    private static VeinCourt courtWithTwoNicks() {
        VeinCourt x = Checks.courtOn(60);
        x.stake(20, 0, 30, 1);
        x.nick(31, 0, 2);
        x.nick(32, 0, 2);
        return x;
    }

    private static void claimIsAsStaked(String when, VeinCourt x, int worked) {
        int[] want = {1, 25, 35, worked, 1, 0, 11};
        for (int what = 0; what < want.length; what++) {
            C.due(when + ", of(0, " + what + ")", x.of(0, what, 60, 60), want[what]);
        }
        C.due(when + ", share of 1", x.share(0, 1, 60, 60), 24);
        C.due(when + ", share of 2", x.share(0, 2, 60, 60), 0);
    }

    private static void ofClaimThatDoesNotStandYet() {
        VeinCourt x = Checks.courtOn(60);
        x.stake(20, 0, 30, 1);
        C.sentence(5, "One of a CLAIM that doesn't STAND (yet, or any more) brings nothing.");
        x.work(19, 0);
        claimIsAsStaked("WORK ahead", x, 20);
        C.sentence(6, "One of a CLAIM that doesn't STAND (yet, or any more) brings nothing.");
        x.nick(17, 0, 2);
        x.nick(18, 0, 2);
        x.nick(19, 0, 2);
        claimIsAsStaked("NICKS ahead", x, 20);
        C.sentence(7, "One of a CLAIM that doesn't STAND (yet, or any more) brings nothing.");
        x.give(19, 0);
        x.give(0, 0);
        claimIsAsStaked("GIVE UP ahead", x, 20);
        C.sentence(8, "One of a CLAIM that doesn't STAND (yet, or any more) brings nothing.");
        x.view(19, 0, 1, 2);
        claimIsAsStaked("VIEW ahead", x, 20);
        C.due("no foot of it ahead", x.owner(0, 1, 19, 60), NONE);
        C.sentence(9, "One of a CLAIM that doesn't STAND (yet, or any more) brings nothing.");
        x.sell(19, 0, 1, 2, 24);
        claimIsAsStaked("SALE ahead", x, 20);
        C.due("it stands not yet", x.of(0, 0, 19, 60), NONE);
    }

    private static void ofClaimThatDoesNotStandAnyMore() {
        VeinCourt x = Checks.courtOn(60);
        x.stake(20, 0, 30, 1);
        x.give(30, 0);
        C.sentence(5, "One of a CLAIM that doesn't STAND (yet, or any more) brings nothing.");
        x.work(30, 0);
        x.work(40, 0);
        C.due("WORK behind", x.of(0, 3, 60, 60), NONE);
        C.sentence(6, "One of a CLAIM that doesn't STAND (yet, or any more) brings nothing.");
        x.nick(41, 0, 2);
        x.nick(42, 0, 2);
        x.nick(43, 0, 2);
        C.due("NICKS behind", x.of(0, 0, 60, 60), NONE);
        C.due("no OWNER", x.owner(0, 30, 60, 60), NONE);
        C.sentence(7, "One of a CLAIM that doesn't STAND (yet, or any more) brings nothing.");
        x.give(44, 0);
        C.due("GIVE UP behind", x.of(0, 0, 60, 60), NONE);
        C.sentence(8, "One of a CLAIM that doesn't STAND (yet, or any more) brings nothing.");
        x.view(45, 0, 0, 59);
        C.due("VIEW behind", x.claim(0, 0, 60, 60), NONE);
        C.sentence(9, "One of a CLAIM that doesn't STAND (yet, or any more) brings nothing.");
        x.sell(46, 0, 1, 2, 3);
        C.due("SALE behind", x.share(0, 2, 60, 60), NONE);
        C.due("it stood till the day before", x.of(0, 0, 29, 60), 1);
    }

    private static void ofClaimWhoseStakeIsNotKnown() {
        C.sentence(11, "One of a CLAIM that doesn't STAND (yet, or any more) brings nothing.");
        VeinCourt x = courtWithTwoNicks();
        x.work(25, 0);
        x.view(26, 0, 0, 59);
        x.sell(27, 0, 1, 2, 3);
        x.dig(28, 0, 30, 1);
        C.due("dug while the STAKE is known", x.dug(1, 60, 60), 21);
        x.day(1);
        x.withdraw(0);
        C.due("of", x.of(0, 0, 61, 61), NONE);
        C.due("share", x.share(0, 2, 61, 61), NONE);
        C.due("owner", x.owner(0, 0, 61, 61), NONE);
        C.due("dug by 1", x.dug(1, 61, 61), 0);
        C.due("dug by NOBODY", x.dug(10, 61, 61), 24);
        C.due("many(0)", x.many(0), 7);
        C.due("as known on the day before", x.dug(1, 61, 60), 21);
    }

    private static void work() {
        C.sentence(5, "WORK: it was WORKED that DAY, and all NICKS of it are gone.");
        VeinCourt x = courtWithTwoNicks();
        x.work(32, 0);
        C.due("NICKS on the day before", x.of(0, 5, 31, 60), 1);
        C.due("NICKS that DAY, told behind the NICK", x.of(0, 5, 32, 60), 0);
        C.due("WORKED on the day before", x.of(0, 3, 31, 60), 20);
        C.due("WORKED that DAY", x.of(0, 3, 32, 60), 32);
        x.nick(43, 0, 2);
        C.due("one that comes later is the first", x.of(0, 5, 43, 60), 1);
        x.nick(44, 0, 2);
        C.due("two are no taking", x.of(0, 0, 44, 60), 1);
        x.work(45, 0);
        x.work(45, 0);
        C.due("WORKED twice a day", x.of(0, 3, 45, 60), 45);
        x.withdraw(8);
        C.due("one withdrawn, the other holds", x.of(0, 3, 45, 60), 45);
        VeinCourt y = Checks.courtOn(60);
        y.stake(0, 0, 30, 1);
        y.work(11, 0);
        y.nick(11, 0, 2);
        C.due("NICK behind the WORK of a day", y.of(0, 5, 11, 60), 0);
    }

    private static void idle() {
        C.sentence(15, "A CLAIM is IDLE on a DAY that is more than I DAYS behind that when it was WORKED last");
        VeinCourt x = Checks.courtOn(60);
        x.stake(20, 0, 30, 1);
        x.work(35, 0);
        int[][] rows = {{20, 0}, {29, 0}, {30, 0}, {31, 1}, {34, 1}, {35, 0}, {45, 0}, {46, 1}, {999, 1}};
        for (int[] row : rows) {
            C.due("IDLE on " + row[0], x.of(0, 4, row[0], 60), row[1]);
        }
    }

    private static void idleByRule() {
        C.sentence(15, "as THE RULE is when one asks");
        VeinCourt x = courtWithTwoNicks();
        x.nick(33, 0, 2);
        int[][] rows = {{1, 2, 0}, {10, 2, 0}, {11, 1, 2}, {12, 1, 1}, {13, 1, 0}, {30, 1, 0}, {10, 2, 0}};
        for (int[] row : rows) {
            x.rule(1, row[0]);
            C.due("HOLDER under " + row[0], x.of(0, 0, 60, 60), row[1]);
            C.due("NICKS under " + row[0], x.of(0, 5, 60, 60), row[2]);
        }
        VeinCourt y = Checks.courtOn(60);
        y.stake(20, 0, 30, 1);
        for (int days : new int[] {1, 10, 30, 2, 29}) {
            y.rule(1, days);
            C.due("IDLE " + days + " DAYS behind, under as many", y.of(0, 4, 20 + days, 60), 0);
            C.due("IDLE one DAY more behind, under " + days, y.of(0, 4, 21 + days, 60), 1);
        }
    }

    private static void nickOfIdle() {
        C.sentence(6, "NICK of a CLAIM that is IDLE that DAY");
        VeinCourt x = Checks.courtOn(60);
        x.stake(20, 0, 30, 1);
        x.nick(20, 0, 2);
        x.nick(30, 0, 2);
        C.due("10 DAYS behind", x.of(0, 5, 60, 60), 0);
        x.nick(31, 0, 2);
        C.due("11 DAYS behind", x.of(0, 5, 60, 60), 1);
        C.due("IDLE by the DAY that it is about, not that for which one asks", x.of(0, 5, 30, 60), 0);
    }

    private static void nickByHolder() {
        C.sentence(6, "by one who isn't its HOLDER (others bring nothing)");
        VeinCourt x = courtWithTwoNicks();
        x.nick(33, 0, 1);
        C.due("the HOLDER's lets those be that there are", x.of(0, 5, 33, 60), 2);
        x.nick(34, 0, 1);
        x.nick(35, 0, 1);
        C.due("none is taken by its HOLDER", x.of(0, 5, 35, 60), 2);
        C.due("WORKED", x.of(0, 3, 35, 60), 20);
        VeinCourt y = Checks.courtOn(60);
        y.stake(20, 0, 30, 1);
        y.sell(21, 0, 1, 2, 24);
        y.nick(31, 0, 1);
        C.due("the HOLDER without SHARES is the HOLDER", y.of(0, 5, 31, 60), 0);
        y.nick(32, 0, 2);
        C.due("one with all SHARES isn't", y.of(0, 5, 32, 60), 1);
    }

    private static void nickByAnother() {
        C.sentence(6, "if its NICKS are another MINER's, or the first of them is more than 10 DAYS back, they are gone "
                + "first");
        VeinCourt x = courtWithTwoNicks();
        x.nick(33, 0, 0);
        C.due("another MINER's is the first", x.of(0, 5, 33, 60), 1);
        C.due("no taking", x.of(0, 0, 33, 60), 1);
        x.nick(34, 0, 2);
        C.due("and the other way", x.of(0, 5, 34, 60), 1);
        x.nick(34, 0, 0);
        C.due("on one DAY too", x.of(0, 5, 34, 60), 1);
        x.nick(34, 0, 0);
        C.due("that one's again", x.of(0, 5, 34, 60), 1);
        x.nick(35, 0, 0);
        x.nick(36, 0, 0);
        C.due("three of one MINER", x.of(0, 0, 36, 60), 0);
    }

    private static void nickTenDaysBack() {
        C.sentence(6, "the first of them is more than 10 DAYS back");
        VeinCourt x = courtWithTwoNicks();
        x.nick(41, 0, 2);
        C.due("10 DAYS back", x.of(0, 0, 41, 60), 2);
        VeinCourt y = courtWithTwoNicks();
        y.nick(42, 0, 2);
        C.due("11 DAYS back", y.of(0, 0, 42, 60), 1);
        C.due("all are gone, not the first alone", y.of(0, 5, 42, 60), 1);
        y.nick(43, 0, 2);
        y.nick(52, 0, 2);
        C.due("10 DAYS from the new first one", y.of(0, 0, 52, 60), 2);
        VeinCourt z = courtWithTwoNicks();
        C.due("they stay while none comes", z.of(0, 5, 999, 60), 2);
        z.nick(50, 0, 1);
        C.due("the HOLDER's lets them stay", z.of(0, 5, 50, 60), 2);
    }

    private static void nickTwiceOnOneDay() {
        C.sentence(6, "if there is one of that DAY it brings nothing; else it is one more");
        VeinCourt x = Checks.courtOn(60);
        x.stake(20, 0, 30, 1);
        x.nick(31, 0, 2);
        x.nick(31, 0, 2);
        x.nick(31, 0, 2);
        C.due("thrice on the first DAY", x.of(0, 5, 31, 60), 1);
        x.nick(32, 0, 2);
        x.nick(32, 0, 2);
        C.due("twice on the second DAY", x.of(0, 5, 32, 60), 2);
        C.due("no taking", x.of(0, 0, 32, 60), 1);
        x.withdraw(1);
        C.due("one of three withdrawn", x.of(0, 5, 32, 60), 2);
        x.nick(33, 0, 2);
        C.due("the third DAY", x.of(0, 0, 33, 60), 2);
        x.nick(33, 0, 2);
        C.due("a fourth is its HOLDER's", x.of(0, 5, 33, 60), 0);
    }

    private static void nickThird() {
        C.sentence(6, "With the third the CLAIM is TAKEN: that MINER is its HOLDER, and has all 24 SHARES; it was WORKED "
                + "that DAY, and all NICKS are gone.");
        VeinCourt x = Checks.courtOn(60);
        x.stake(20, 0, 30, 1);
        x.stake(21, 0, 30, 4);
        x.sell(22, 0, 1, 3, 8);
        x.sell(22, 0, 1, 2, 8);
        x.nick(31, 0, 2);
        x.nick(32, 0, 2);
        x.nick(33, 0, 2);
        int[] before = {1, 25, 35, 20, 1, 2, 11};
        int[] behind = {2, 25, 35, 33, 0, 0, 11};
        for (int what = 0; what < 7; what++) {
            C.due("on 32, of(0, " + what + ")", x.of(0, what, 32, 60), before[what]);
            C.due("on 33, of(0, " + what + ")", x.of(0, what, 33, 60), behind[what]);
        }
        int[] shares = {0, 0, 24, 0, 0, 0, 0, 0, 0, 0};
        for (int miner = 0; miner < 10; miner++) {
            C.due("share of " + miner, x.share(0, miner, 33, 60), shares[miner]);
        }
        C.due("it stays the ELDEST", x.claim(0, 30, 33, 60), 0);
        x.nick(43, 0, 1);
        C.due("10 DAYS behind the taking", x.of(0, 5, 43, 60), 0);
        x.nick(44, 0, 1);
        C.due("11 DAYS behind the taking", x.of(0, 5, 44, 60), 1);
        x.nick(45, 0, 1);
        x.nick(46, 0, 1);
        C.due("taken back", x.of(0, 0, 46, 60), 1);
        x.day(1);
        x.withdraw(5);
        C.due("one of the three withdrawn", x.of(0, 0, 33, 61), 1);
        C.due("as known ahead of that", x.of(0, 0, 33, 60), 2);
    }

    private static void giveUp() {
        C.sentence(7, "GIVE UP: it doesn't STAND any more.");
        VeinCourt x = Checks.courtOn(60);
        x.stake(20, 0, 30, 1);
        x.stake(20, 0, 33, 2);
        x.give(30, 0);
        C.due("owner on the day before", x.owner(0, 30, 29, 60), 1);
        C.due("owner that DAY", x.owner(0, 30, 30, 60), 2);
        C.due("owner where there was one alone", x.owner(0, 27, 30, 60), NONE);
        C.due("contested on the day before", x.contested(0, 29, 60), 8);
        C.due("contested that DAY", x.contested(0, 30, 60), 0);
        x.give(20, 1);
        C.due("on the STAKE's own DAY", x.of(1, 0, 20, 60), NONE);
        x.day(1);
        x.withdraw(2);
        C.due("GIVE UP withdrawn", x.of(0, 0, 60, 61), 1);
        C.due("as known ahead of that", x.of(0, 0, 60, 60), NONE);
    }

    private static void view() {
        C.sentence(8, "VIEW: its FEET are those from a to b.");
        VeinCourt x = Checks.courtOn(60);
        x.stake(20, 2, 30, 1);
        x.view(30, 0, 0, 0);
        x.view(31, 0, 59, 59);
        x.view(32, 0, 0, 59);
        int[][] rows = {{29, 25, 35, 11}, {30, 0, 0, 1}, {31, 59, 59, 1}, {32, 0, 59, 60}};
        for (int[] row : rows) {
            C.due("first on " + row[0], x.of(0, 1, row[0], 60), row[1]);
            C.due("last on " + row[0], x.of(0, 2, row[0], 60), row[2]);
            C.due("feet on " + row[0], x.feet(1, row[0], 60), row[3]);
        }
        C.due("its VEIN stays", x.owner(1, 0, 32, 60), NONE);
        C.due("WORKED stays", x.of(0, 3, 32, 60), 20);
        C.due("SHARES stay", x.share(0, 1, 32, 60), 24);
    }

    private static void sale() {
        C.sentence(9, "SALE: if the first MINER has n SHARES or more, n are the other one's.");
        VeinCourt x = Checks.courtOn(60);
        x.stake(20, 0, 30, 1);
        x.sell(21, 0, 1, 2, 4);
        x.sell(22, 0, 1, 2, 21);
        x.sell(23, 0, 1, 3, 20);
        x.sell(24, 0, 1, 3, 1);
        x.sell(25, 0, 5, 6, 1);
        x.sell(26, 0, 2, 3, 4);
        x.sell(27, 0, 3, 9, 24);
        int[][] rows = {{20, 24, 0, 0, 0}, {21, 20, 4, 0, 0}, {22, 20, 4, 0, 0}, {23, 0, 4, 20, 0}, {24, 0, 4, 20, 0},
            {25, 0, 4, 20, 0}, {26, 0, 0, 24, 0}, {27, 0, 0, 0, 24}};
        int[] who = {1, 2, 3, 9};
        for (int[] row : rows) {
            for (int i = 0; i < who.length; i++) {
                C.due("share of " + who[i] + " on " + row[0], x.share(0, who[i], row[0], 60), row[i + 1]);
            }
        }
        C.due("its HOLDER stays", x.of(0, 0, 60, 60), 1);
        C.due("the feet are the HOLDER's", x.feet(9, 60, 60), 0);
        C.due("share of 6", x.share(0, 6, 60, 60), 0);
    }

    private static void eldest() {
        C.sentence(14, "the ELDEST one (that whose STAKE is about the earliest DAY, of one DAY the least number)");
        VeinCourt x = Checks.courtOn(60);
        x.stake(20, 0, 30, 1);
        x.stake(20, 0, 30, 2);
        C.due("of one DAY the least number", x.claim(0, 30, 60, 60), 0);
        x.stake(19, 0, 30, 3);
        C.due("the earliest DAY, told last", x.claim(0, 30, 60, 60), 2);
        x.stake(0, 0, 30, 4);
        C.due("about 0", x.claim(0, 30, 60, 60), 3);
        C.due("on 18", x.claim(0, 30, 18, 60), 3);
        x.work(30, 0);
        x.view(31, 0, 30, 30);
        C.due("not by WORK nor VIEW", x.claim(0, 30, 60, 60), 3);
        x.give(40, 3);
        C.due("of those that STAND", x.claim(0, 30, 60, 60), 2);
        x.view(41, 2, 40, 45);
        C.due("over that FOOT", x.claim(0, 30, 60, 60), 0);
        x.view(42, 0, 0, 29);
        C.due("the last one over it", x.claim(0, 30, 60, 60), 1);
        x.give(43, 1);
        C.due("none over it", x.claim(0, 30, 60, 60), NONE);
    }

    private static void digOfOwner() {
        C.sentence(10, "DIG: each MINER who has SHARES of the OWNER's CLAIM has DUG n times SHARES more");
        VeinCourt x = Checks.courtOn(60);
        x.stake(20, 0, 30, 1);
        x.stake(20, 0, 31, 5);
        x.sell(21, 0, 1, 0, 1);
        x.sell(21, 0, 1, 9, 23);
        x.dig(20, 0, 35, 1000);
        x.dig(21, 0, 25, 1000);
        x.dig(22, 0, 36, 1);
        int[][] rows = {{19, 0, 0, 0, 0}, {20, 0, 24000, 0, 0}, {21, 1000, 24000, 23000, 0},
            {22, 1000, 24000, 23000, 24}};
        int[] who = {0, 1, 9, 5};
        for (int[] row : rows) {
            for (int i = 0; i < who.length; i++) {
                C.due("dug by " + who[i] + " on " + row[0], x.dug(who[i], row[0], 60), row[i + 1]);
            }
            C.due("dug by NOBODY on " + row[0], x.dug(10, row[0], 60), 0);
        }
    }

    private static void digOfNobody() {
        C.sentence(10, "without an OWNER it is NOBODY's, n times 24.");
        VeinCourt x = Checks.courtOn(60);
        x.stake(20, 1, 30, 1);
        x.give(40, 0);
        x.dig(19, 1, 30, 1);
        x.dig(20, 1, 24, 2);
        x.dig(20, 1, 36, 4);
        x.dig(20, 0, 30, 8);
        x.dig(20, 2, 30, 16);
        x.dig(39, 1, 30, 32);
        x.dig(40, 1, 30, 1000);
        int[][] rows = {{18, 0, 0}, {19, 24, 0}, {20, 744, 0}, {39, 744, 768}, {40, 24744, 768}};
        for (int[] row : rows) {
            C.due("dug by NOBODY on " + row[0], x.dug(10, row[0], 60), row[1]);
            C.due("dug by 1 on " + row[0], x.dug(1, row[0], 60), row[2]);
        }
    }

    private static void knownFromTold() {
        C.sentence(13, "A FACT is KNOWN on a DAY if it was TOLD on that or an earlier one");
        VeinCourt x = Checks.courtOn(7);
        x.stake(2, 0, 30, 1);
        C.due("known on 6", x.owner(0, 30, 7, 6), NONE);
        C.due("known on 0", x.owner(0, 30, 7, 0), NONE);
        C.due("known on 7", x.owner(0, 30, 7, 7), 1);
        C.due("known on 8, which is ahead of THE CLOCK", x.owner(0, 30, 7, 8), 1);
        C.due("known on 999", x.owner(0, 30, 7, 999), 1);
        C.due("for 2, known on 6", x.owner(0, 30, 2, 6), NONE);
        C.due("for 2, known on 7", x.owner(0, 30, 2, 7), 1);
    }

    private static void knownToWithdrawn() {
        C.sentence(11, "and not WITHDRAWN on that or an earlier one");
        VeinCourt x = Checks.courtOn(7);
        x.stake(2, 0, 30, 1);
        x.day(3);
        x.withdraw(0);
        C.due("known on 7", x.owner(0, 30, 7, 7), 1);
        C.due("known on 9", x.owner(0, 30, 7, 9), 1);
        C.due("known on 10", x.owner(0, 30, 7, 10), NONE);
        C.due("known on 11", x.owner(0, 30, 7, 11), NONE);
        C.due("known on 999", x.owner(0, 30, 7, 999), NONE);
        x.stake(3, 0, 30, 2);
        x.withdraw(1);
        C.due("TOLD and WITHDRAWN on one DAY", x.owner(0, 30, 10, 10), NONE);
        C.due("on the day behind", x.owner(0, 30, 10, 11), NONE);
        VeinCourt y = new VeinCourt();
        y.stake(0, 0, 30, 1);
        y.withdraw(0);
        C.due("on day 0", y.owner(0, 30, 0, 0), NONE);
        C.due("many(0)", y.many(0), 1);
    }
}
