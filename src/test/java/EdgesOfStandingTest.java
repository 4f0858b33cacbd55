/** Promises 13 to 22, how it stands: each sentence of them that names an edge. */
public final class EdgesOfStandingTest {
    private static final int NUMBER = Checks.NUMBER;
    private static final int KIND = Checks.KIND;
    private static final int NONE = Checks.NONE;

    private static final Checks C = new Checks("edges of standing");

    public static void main(String[] args) {
        ownerNumbers();
        ownerNone();
        claimNumbers();
        claimNone();
        ofNumbers();
        ofKindAndNone();
        ofFeet();
        ofNicks();
        shareNumbers();
        shareKindAndNone();
        shareOfNoneAndAll();
        feet();
        feetOfAll();
        contestedNumbers();
        contestedByTwo();
        contestedByTwenty();
        dugNumbers();
        dugOfDays();
        dugFull();
        dueNumbers();
        dueRestAway();
        changedNumbers();
        changedHolders();
        changedOfAll();
        many();
        dayAndKnownAnywhere();
        C.end();
    }

    /** A court on 20: claim 0 of miner 1 on feet 25 to 35 of vein 1, told on 20, about 5. */
    private static VeinCourt courtOfOne() {
        VeinCourt x = Checks.courtOn(20);
        x.stake(5, 1, 30, 1);
        return x;
    }

    private static void ownerNumbers() {
        C.sentence(13, "NUMBER: there is no such VEIN, FOOT, DAY (either)");
        VeinCourt x = courtOfOne();
        C.noSuch(x, "owner vein", (c, v) -> c.owner(v, 30, 20, 20), 4);
        C.noSuch(x, "owner foot", (c, v) -> c.owner(1, v, 20, 20), 60);
        C.noSuch(x, "owner day", (c, v) -> c.owner(1, 30, v, 20), 1000);
        C.noSuch(x, "owner known", (c, v) -> c.owner(1, 30, 20, v), 1000);
        C.due("the least ones", x.owner(0, 0, 0, 0), NONE);
        C.due("the greatest ones", x.owner(3, 59, 999, 999), NONE);
        C.due("the greatest days", x.owner(1, 30, 999, 999), 1);
        VeinCourt y = new VeinCourt();
        y.stake(0, 0, 0, 0);
        y.stake(0, 3, 59, 9);
        C.due("owner of the least foot", y.owner(0, 0, 0, 0), 0);
        C.due("owner of the greatest foot", y.owner(3, 59, 0, 0), 9);
    }

    private static void ownerNone() {
        C.sentence(13, "NONE: it has no OWNER.");
        VeinCourt x = courtOfOne();
        C.due("one foot ahead", x.owner(1, 24, 20, 20), NONE);
        C.due("the first foot", x.owner(1, 25, 20, 20), 1);
        C.due("the last foot", x.owner(1, 35, 20, 20), 1);
        C.due("one foot behind", x.owner(1, 36, 20, 20), NONE);
        C.due("one vein ahead", x.owner(0, 30, 20, 20), NONE);
        C.due("one vein behind", x.owner(2, 30, 20, 20), NONE);
        C.due("the day before", x.owner(1, 30, 4, 20), NONE);
        C.due("that day", x.owner(1, 30, 5, 20), 1);
        C.due("not known yet", x.owner(1, 30, 20, 19), NONE);
        x.give(10, 0);
        C.due("given up", x.owner(1, 30, 10, 20), NONE);
        C.due("the day before that", x.owner(1, 30, 9, 20), 1);
    }

    private static void claimNumbers() {
        C.sentence(14, "NUMBER, NONE likewise.");
        VeinCourt x = courtOfOne();
        C.noSuch(x, "claim vein", (c, v) -> c.claim(v, 30, 20, 20), 4);
        C.noSuch(x, "claim foot", (c, v) -> c.claim(1, v, 20, 20), 60);
        C.noSuch(x, "claim day", (c, v) -> c.claim(1, 30, v, 20), 1000);
        C.noSuch(x, "claim known", (c, v) -> c.claim(1, 30, 20, v), 1000);
        C.due("the greatest days", x.claim(1, 30, 999, 999), 0);
        C.due("the least ones", x.claim(0, 0, 0, 0), NONE);
        C.due("the greatest ones", x.claim(3, 59, 999, 999), NONE);
    }

    private static void claimNone() {
        C.sentence(14, "The CLAIM that is the OWNER of a FOOT.");
        VeinCourt x = courtOfOne();
        C.due("one foot ahead", x.claim(1, 24, 20, 20), NONE);
        C.due("the first foot", x.claim(1, 25, 20, 20), 0);
        C.due("the last foot", x.claim(1, 35, 20, 20), 0);
        C.due("one foot behind", x.claim(1, 36, 20, 20), NONE);
        C.due("the day before", x.claim(1, 30, 4, 20), NONE);
        C.due("that day", x.claim(1, 30, 5, 20), 0);
        C.due("not known yet", x.claim(1, 30, 20, 19), NONE);
        VeinCourt y = Checks.courtOfNinety();
        C.due("claim 0 of 90 facts", y.claim(0, 30, 20, 20), 0);
        VeinCourt z = new VeinCourt();
        for (int fact = 0; fact < 89; fact++) {
            z.dig(0, 0, 0, 1);
        }
        z.stake(0, 3, 59, 9);
        C.due("claim 89", z.claim(3, 59, 0, 0), 89);
        C.due("its HOLDER", z.owner(3, 59, 0, 0), 9);
    }

    private static void ofNumbers() {
        C.sentence(15, "NUMBER: there is no such FACT, DAY (either), another what");
        VeinCourt x = courtOfOne();
        for (int what = 0; what < 7; what++) {
            int w = what;
            C.noSuch(x, "of claim, what " + what, (c, v) -> c.of(v, w, 20, 20), 1);
            C.noSuch(x, "of day, what " + what, (c, v) -> c.of(0, w, v, 20), 1000);
            C.noSuch(x, "of known, what " + what, (c, v) -> c.of(0, w, 20, v), 1000);
        }
        C.noSuch(x, "of what", (c, v) -> c.of(0, v, 20, 20), 7);
        int[] want = {1, 25, 35, 5, 1, 0, 11};
        for (int what = 0; what < 7; what++) {
            C.due("of(0, " + what + ", 999, 999)", x.of(0, what, 999, 999), want[what]);
        }
    }

    private static void ofKindAndNone() {
        C.sentence(15, "KIND: it is no STAKE");
        VeinCourt x = Checks.courtOfAllKinds();
        for (int kind = 1; kind <= 6; kind++) {
            C.due("of kind " + kind, x.of(kind, 0, 20, 20), KIND);
        }
        C.sentence(15, "NONE: it doesn't STAND.");
        for (int what = 0; what < 7; what++) {
            C.due("not yet, what " + what, x.of(0, what, 1, 20), NONE);
            C.due("not known yet, what " + what, x.of(0, what, 19, 19), NONE);
            C.due("not any more, what " + what, x.of(0, what, 20, 20), NONE);
        }
        C.due("on its first day", x.of(0, 0, 2, 20), 1);
        C.due("on its last day", x.of(0, 0, 19, 20), 1);
        x.day(1);
        x.withdraw(0);
        C.due("withdrawn", x.of(0, 0, 19, 21), NONE);
        C.due("as known before", x.of(0, 0, 19, 20), 1);
    }

    private static void ofFeet() {
        C.sentence(15, "6 of how many FEET it is the OWNER");
        VeinCourt x = Checks.courtOn(20);
        x.stake(5, 1, 30, 1);
        x.stake(6, 1, 30, 2);
        x.stake(7, 1, 31, 1);
        x.stake(7, 2, 31, 3);
        C.due("all of its FEET", x.of(0, 6, 20, 20), 11);
        C.due("none of them", x.of(1, 6, 20, 20), 0);
        C.due("one, its HOLDER's other CLAIM beside", x.of(2, 6, 20, 20), 1);
        C.due("of another VEIN", x.of(3, 6, 20, 20), 11);
        x.view(8, 1, 0, 59);
        C.due("around the elder one", x.of(1, 6, 20, 20), 49);
        C.due("none behind that", x.of(2, 6, 20, 20), 0);
        x.view(9, 0, 0, 59);
        C.due("the whole VEIN", x.of(0, 6, 20, 20), 60);
        C.due("nothing left", x.of(1, 6, 20, 20), 0);
        C.due("nothing left", x.of(2, 6, 20, 20), 0);
    }

    private static void ofNicks() {
        C.sentence(15, "5 how many NICKS there are");
        VeinCourt x = Checks.courtOn(60);
        x.stake(20, 0, 30, 1);
        x.nick(31, 0, 2);
        x.nick(32, 0, 2);
        x.nick(33, 0, 2);
        int[][] rows = {{20, 0}, {30, 0}, {31, 1}, {32, 2}, {33, 0}, {60, 0}};
        for (int[] row : rows) {
            C.due("NICKS on " + row[0], x.of(0, 5, row[0], 60), row[1]);
        }
    }

    private static void shareNumbers() {
        C.sentence(16, "NUMBER: there is no such FACT, MINER, DAY (either)");
        VeinCourt x = courtOfOne();
        C.noSuch(x, "share claim", (c, v) -> c.share(v, 1, 20, 20), 1);
        C.noSuch(x, "share miner", (c, v) -> c.share(0, v, 20, 20), 10);
        C.noSuch(x, "share day", (c, v) -> c.share(0, 1, v, 20), 1000);
        C.noSuch(x, "share known", (c, v) -> c.share(0, 1, 20, v), 1000);
        C.due("the greatest days", x.share(0, 1, 999, 999), 24);
    }

    private static void shareKindAndNone() {
        C.sentence(16, "KIND");
        VeinCourt x = Checks.courtOfAllKinds();
        for (int kind = 1; kind <= 6; kind++) {
            C.due("share of kind " + kind, x.share(kind, 1, 20, 20), KIND);
        }
        C.sentence(16, "NONE: it doesn't STAND.");
        for (int miner = 0; miner < 10; miner++) {
            C.due("not yet, " + miner, x.share(0, miner, 1, 20), NONE);
            C.due("not known yet, " + miner, x.share(0, miner, 19, 19), NONE);
            C.due("not any more, " + miner, x.share(0, miner, 20, 20), NONE);
        }
        C.due("on its first day", x.share(0, 1, 2, 20), 24);
        C.due("on its last day", x.share(0, 1, 19, 20), 20);
        x.day(1);
        x.withdraw(0);
        C.due("withdrawn", x.share(0, 1, 19, 21), NONE);
    }

    private static void shareOfNoneAndAll() {
        C.sentence(16, "SHARES that a MINER has of a CLAIM.");
        VeinCourt x = Checks.courtOn(20);
        x.stake(5, 0, 30, 0);
        x.stake(5, 0, 30, 9);
        x.sell(6, 0, 0, 9, 24);
        int[] first = {0, 0, 0, 0, 0, 0, 0, 0, 0, 24};
        for (int miner = 0; miner < 10; miner++) {
            C.due("share of 0, " + miner, x.share(0, miner, 20, 20), first[miner]);
            C.due("share of 1, " + miner, x.share(1, miner, 20, 20), first[miner]);
        }
        C.due("share of 0 ahead of the SALE", x.share(0, 0, 5, 20), 24);
    }

    private static void feet() {
        C.sentence(17, "NUMBER: there is no such MINER, DAY (either).");
        VeinCourt x = courtOfOne();
        C.noSuch(x, "feet miner", (c, v) -> c.feet(v, 20, 20), 10);
        C.noSuch(x, "feet day", (c, v) -> c.feet(1, v, 20), 1000);
        C.noSuch(x, "feet known", (c, v) -> c.feet(1, 20, v), 1000);
        C.due("feet of NONE's number", x.feet(NONE, 20, 20), NUMBER);
        C.due("the greatest days", x.feet(1, 999, 999), 11);
        C.due("the day before", x.feet(1, 4, 20), 0);
        C.due("that day", x.feet(1, 5, 20), 11);
        C.due("not known yet", x.feet(1, 20, 19), 0);
        C.due("of another one", x.feet(0, 20, 20), 0);
    }

    private static void feetOfAll() {
        C.sentence(17, "Of how many FEET, of all VEINS, a MINER is the HOLDER of the OWNER.");
        VeinCourt x = Checks.courtOn(20);
        for (int vein = 0; vein < 4; vein++) {
            x.stake(5, vein, 30, 9);
            x.stake(5, vein, 30, 8);
        }
        C.due("feet of 9", x.feet(9, 20, 20), 44);
        C.due("feet of 8", x.feet(8, 20, 20), 0);
        for (int claim = 0; claim < 8; claim += 2) {
            x.view(6, claim, 0, 59);
        }
        C.due("all feet of 9", x.feet(9, 20, 20), 240);
        for (int claim = 0; claim < 8; claim += 2) {
            x.view(7, claim, 59, 59);
        }
        x.stake(5, 0, 0, 8);
        C.due("feet of 9, one of each vein", x.feet(9, 20, 20), 4);
        C.due("feet of 8, two claims of one vein", x.feet(8, 20, 20), 50);
        x.sell(8, 0, 9, 7, 24);
        C.due("SHARES are no FEET", x.feet(7, 20, 20), 0);
    }

    private static void contestedNumbers() {
        C.sentence(18, "NUMBER: there is no such VEIN, DAY (either).");
        VeinCourt x = courtOfOne();
        x.stake(6, 1, 30, 1);
        C.noSuch(x, "contested vein", (c, v) -> c.contested(v, 20, 20), 4);
        C.noSuch(x, "contested day", (c, v) -> c.contested(1, v, 20), 1000);
        C.noSuch(x, "contested known", (c, v) -> c.contested(1, 20, v), 1000);
        C.due("the greatest days", x.contested(1, 999, 999), 11);
        C.due("the least days", x.contested(1, 0, 0), 0);
        C.due("not known yet", x.contested(1, 20, 19), 0);
        C.due("the day before the second", x.contested(1, 5, 20), 0);
        C.due("that day", x.contested(1, 6, 20), 11);
    }

    private static void contestedByTwo() {
        C.sentence(18, "How many FEET of a VEIN two CLAIMS or more STAND over.");
        VeinCourt x = Checks.courtOn(20);
        C.due("without CLAIMS", x.contested(3, 20, 20), 0);
        x.stake(5, 3, 5, 1);
        C.due("one CLAIM", x.contested(3, 20, 20), 0);
        x.stake(5, 3, 16, 1);
        C.due("two side by side", x.contested(3, 20, 20), 0);
        x.stake(5, 2, 10, 1);
        C.due("one of another VEIN", x.contested(3, 20, 20), 0);
        x.view(6, 1, 10, 20);
        C.due("two that share a FOOT, of one MINER", x.contested(3, 20, 20), 1);
        x.stake(7, 3, 10, 2);
        C.due("three", x.contested(3, 20, 20), 11);
        x.view(8, 0, 0, 59);
        x.view(8, 1, 0, 59);
        C.due("the whole VEIN", x.contested(3, 20, 20), 60);
        x.give(9, 1);
        C.due("one given up", x.contested(3, 20, 20), 11);
        x.give(10, 0);
        C.due("two given up", x.contested(3, 20, 20), 0);
        C.due("the day before", x.contested(3, 9, 20), 11);
    }

    private static void contestedByTwenty() {
        C.sentence(18, "two CLAIMS or more");
        VeinCourt x = Checks.courtOfTwentyStakes();
        for (int vein = 0; vein < 4; vein++) {
            C.due("side by side on " + vein, x.contested(vein, 20, 20), 0);
        }
        C.due("feet of 1", x.feet(1, 20, 20), 220);
        x.view(20, 19, 0, 59);
        C.due("the twentieth over all", x.contested(3, 20, 20), 44);
        C.due("the day before", x.contested(3, 19, 20), 0);
        C.due("fewer CLAIMS asked behind more", x.contested(3, 3, 20), 0);
        C.due("before the first", x.contested(3, 2, 20), 0);
    }

    private static void dugNumbers() {
        C.sentence(19, "NUMBER: miner isn't 0 to 10, or there is no such DAY (either).");
        VeinCourt x = courtOfOne();
        x.dig(5, 1, 30, 1);
        C.noSuch(x, "dug miner", (c, v) -> c.dug(v, 20, 20), 11);
        C.noSuch(x, "dug day", (c, v) -> c.dug(1, v, 20), 1000);
        C.noSuch(x, "dug known", (c, v) -> c.dug(1, 20, v), 1000);
        C.noSuch(x, "dug day, NOBODY", (c, v) -> c.dug(10, v, 20), 1000);
        C.due("the greatest days", x.dug(1, 999, 999), 24);
        C.due("miner 0", x.dug(0, 20, 20), 0);
        C.due("miner 9", x.dug(9, 20, 20), 0);
        C.due("miner 10", x.dug(10, 20, 20), 0);
    }

    private static void dugOfDays() {
        C.sentence(19, "What a MINER has DUG (10: NOBODY), in twenty-fourths.");
        VeinCourt x = courtOfOne();
        x.dig(6, 1, 30, 1);
        x.dig(6, 1, 24, 2);
        C.due("by 1 on the day before", x.dug(1, 5, 20), 0);
        C.due("by 1 that day", x.dug(1, 6, 20), 24);
        C.due("by NOBODY on the day before", x.dug(10, 5, 20), 0);
        C.due("by NOBODY that day", x.dug(10, 6, 20), 48);
        C.due("not known yet", x.dug(1, 20, 19), 0);
        x.sell(7, 0, 1, 2, 24);
        C.due("what was DUG stays", x.dug(1, 20, 20), 24);
        C.due("none to the other one", x.dug(2, 20, 20), 0);
        x.give(8, 0);
        C.due("given up, it stays", x.dug(1, 20, 20), 24);
        x.day(1);
        x.withdraw(1);
        C.due("DIG withdrawn", x.dug(1, 20, 21), 0);
        C.due("as known before", x.dug(1, 20, 20), 24);
        x.withdraw(0);
        C.due("STAKE withdrawn", x.dug(10, 20, 21), 48);
    }

    private static void dugFull() {
        C.sentence(19, "n times SHARES more (these are twenty-fourths of measures)");
        VeinCourt x = Checks.courtOfNinety();
        C.due("89 times 1000 measures", x.dug(1, 20, 20), 89 * 24000);
        C.due("asked again", x.dug(1, 20, 20), 89 * 24000);
        C.due("for NOBODY", x.dug(10, 20, 20), 0);
        VeinCourt y = new VeinCourt();
        for (int fact = 0; fact < 90; fact++) {
            y.dig(0, 3, 59, 1000);
        }
        C.due("90 times 1000 measures, NOBODY's", y.dug(10, 0, 0), 90 * 24000);
    }

    private static void dueNumbers() {
        C.sentence(20, "NUMBER as of dug() (10 is none).");
        VeinCourt x = courtOfOne();
        x.dig(6, 1, 30, 100);
        x.dig(6, 0, 30, 100);
        C.noSuch(x, "due miner", (c, v) -> c.due(v, 20, 20), 10);
        C.due("due of 11", x.due(11, 20, 20), NUMBER);
        C.noSuch(x, "due day", (c, v) -> c.due(1, v, 20), 1000);
        C.noSuch(x, "due known", (c, v) -> c.due(1, 20, v), 1000);
        C.due("the greatest days", x.due(1, 999, 999), 10);
        C.due("the day before", x.due(1, 5, 20), 0);
        C.due("that day", x.due(1, 6, 20), 10);
        C.due("not known yet", x.due(1, 20, 19), 0);
        C.due("miner 0", x.due(0, 20, 20), 0);
        C.due("miner 9", x.due(9, 20, 20), 0);
    }

    private static void dueRestAway() {
        C.sentence(20, "a tenth of what it has DUG, the rest away");
        VeinCourt x = Checks.courtOn(20);
        x.stake(0, 0, 30, 1);
        x.sell(0, 0, 1, 0, 1);
        int[][] rows = {{1, 239, 0}, {2, 1, 1}, {3, 239, 1}, {4, 1, 2}, {5, 1000, 6}};
        for (int[] row : rows) {
            x.dig(row[0], 0, 30, row[1]);
            C.due("due on " + row[0], x.due(0, row[0], 20), row[2]);
        }
        C.due("dug by 0", x.dug(0, 20, 20), 1480);
        C.due("due of 1", x.due(1, 20, 20), 1480 * 23 / 240);
        VeinCourt y = Checks.courtOn(20);
        y.stake(0, 0, 30, 1);
        y.sell(0, 0, 1, 0, 15);
        y.dig(1, 0, 30, 16);
        C.due("240 twenty-fourths of one DIG", y.due(0, 20, 20), 1);
        C.due("144 of it", y.due(1, 20, 20), 0);
        y.dig(2, 0, 30, 10);
        C.due("rests are added up first", y.due(1, 20, 20), 0);
        y.dig(3, 0, 30, 1);
        C.due("243 in three DIGS", y.due(1, 20, 20), 1);
        C.due("due of 90 FACTS", Checks.courtOfNinety().due(1, 20, 20), 8900);
    }

    private static void changedNumbers() {
        C.sentence(21, "NUMBER: a DAY is none.");
        VeinCourt x = courtOfOne();
        C.noSuch(x, "changed day", (c, v) -> c.changed(v, 19, 20), 1000);
        C.noSuch(x, "changed known", (c, v) -> c.changed(20, v, 20), 1000);
        C.noSuch(x, "changed other", (c, v) -> c.changed(20, 19, v), 1000);
        C.due("the greatest days", x.changed(999, 999, 999), 0);
        C.due("from the least to the greatest", x.changed(999, 0, 999), 11);
        C.due("from the greatest to the least", x.changed(999, 999, 0), 11);
        C.due("the least days", x.changed(0, 0, 0), 0);
        C.due("for the day before", x.changed(4, 0, 999), 0);
        C.due("for the day before, the other way", x.changed(4, 999, 0), 0);
        C.due("for that day", x.changed(5, 0, 999), 11);
        C.due("for that day, the other way", x.changed(5, 999, 0), 11);
        C.due("known on the day before and that day", x.changed(5, 19, 20), 11);
        C.due("known on two days before", x.changed(5, 18, 19), 0);
    }

    private static void changedHolders() {
        C.sentence(21, "have for a day another OWNER's HOLDER, or one or none");
        VeinCourt x = courtOfOne();
        x.day(1);
        x.stake(4, 1, 30, 1);
        C.due("another OWNER of the same HOLDER", x.changed(20, 20, 21), 0);
        x.day(1);
        x.stake(3, 1, 31, 2);
        C.due("another HOLDER, and one where none was", x.changed(20, 21, 22), 11);
        x.day(1);
        x.withdraw(2);
        C.due("back, and none where one was", x.changed(20, 22, 23), 11);
        C.due("as before", x.changed(20, 21, 23), 0);
        x.day(1);
        x.sell(5, 0, 1, 2, 24);
        x.work(6, 0);
        C.due("SHARES and WORK change no HOLDER", x.changed(20, 23, 24), 0);
        x.day(1);
        x.withdraw(0);
        x.withdraw(1);
        C.due("none where one was", x.changed(20, 24, 25), 11);
        x.stake(20, 3, 59, 0);
        C.due("one of miner 0 where none was", x.changed(20, 24, 25), 17);
        C.due("the other way", x.changed(20, 25, 24), 17);
    }

    private static void changedOfAll() {
        C.sentence(21, "How many FEET, of all VEINS");
        VeinCourt x = new VeinCourt();
        for (int vein = 0; vein < 4; vein++) {
            x.stake(0, vein, 30, 0);
            x.view(0, 2 * vein, 0, 59);
        }
        x.day(1);
        for (int vein = 0; vein < 4; vein++) {
            x.withdraw(2 * vein);
            x.stake(0, vein, vein < 2 ? 0 : 59, 9);
        }
        C.due("all", x.changed(1, 0, 1), 240);
        C.due("none", x.changed(1, 1, 1), 0);
        C.due("feet of 9", x.feet(9, 1, 1), 24);
    }

    private static void many() {
        C.sentence(22, "NUMBER: another what.");
        VeinCourt x = Checks.courtOfNinety();
        C.noSuch(x, "many", (c, v) -> c.many(v), 6);
        C.sentence(22, "How many: what = 0 FACTS, 1 STAKES, 2 that are WITHDRAWN, 3 THE CLOCK, 4 L, 5 I.");
        for (int fact = 0; fact < 90; fact++) {
            x.withdraw(fact);
        }
        int[] full = {90, 1, 90, 20, 5, 10};
        for (int what = 0; what < 6; what++) {
            C.due("many(" + what + ")", x.many(what), full[what]);
        }
        VeinCourt y = Checks.courtOn(999);
        for (int i = 0; i < 20; i++) {
            y.stake(999, 0, 0, 0);
        }
        y.rule(0, 1);
        y.rule(1, 30);
        int[] twenty = {20, 20, 0, 999, 1, 30};
        for (int what = 0; what < 6; what++) {
            C.due("many(" + what + ")", y.many(what), twenty[what]);
        }
    }

    private static void dayAndKnownAnywhere() {
        C.sentence(13, "day and known are 0 to 999 (known may be behind THE CLOCK, day too)");
        VeinCourt x = Checks.courtOn(10);
        x.stake(5, 0, 30, 1);
        x.day(10);
        x.stake(4, 0, 30, 2);
        int[][] rows = {{20, 20, 2}, {20, 19, 1}, {20, 10, 1}, {20, 9, NONE}, {5, 20, 2}, {4, 20, 2}, {3, 20, NONE},
            {5, 10, 1}, {4, 10, NONE}, {21, 21, 2}, {999, 999, 2}, {999, 19, 1}, {999, 0, NONE}, {0, 999, NONE}};
        for (int[] row : rows) {
            C.due("for " + row[0] + " as KNOWN on " + row[1], x.owner(0, 30, row[0], row[1]), row[2]);
        }
    }
}
