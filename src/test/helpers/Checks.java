import java.util.ArrayList;
import java.util.List;
import java.util.Set;
import java.util.TreeSet;

/** What the tests of the edges share: each check stands beside a promise's number and a sentence of it. */
final class Checks {
    static final int NUMBER = -1;
    static final int FULL = -2;
    static final int KIND = -3;
    static final int NONE = -4;
    static final int TWICE = -5;

    /** Numbers that are none of anything: one too small, and both ends of the int. */
    static final int[] NO_NUMBERS = {-1, Integer.MIN_VALUE, Integer.MIN_VALUE + 1, Integer.MAX_VALUE - 1,
        Integer.MAX_VALUE};

    /** One call on an object. */
    interface Call {
        int on(VeinCourt x);
    }

    /** One call on an object, with one of its arguments left open. */
    interface CallWith {
        int on(VeinCourt x, int v);
    }

    private final String name;
    private final Set<Integer> promises = new TreeSet<>();
    private final List<String> sentences = new ArrayList<>();
    private String heading = "";
    private int checks = 0;
    private int wrong = 0;

    Checks(String name) {
        this.name = name;
    }

    /** The checks that follow are of this sentence of the document, which this promise brings. */
    void sentence(int promise, String sentence) {
        promises.add(promise);
        sentences.add(sentence);
        heading = "promise " + promise + ", \"" + sentence + "\"";
    }

    void due(String call, int got, int want) {
        checks++;
        if (got != want) {
            wrong++;
            System.out.println(heading + ": " + call + " answered " + got + ", due is " + want);
        }
    }

    /** NUMBER for the number that is just too great, and for those that are none of anything. */
    void noSuch(VeinCourt x, String call, CallWith open, int justTooGreat) {
        due(call + " of " + justTooGreat, open.on(x, justTooGreat), NUMBER);
        for (int v : NO_NUMBERS) {
            due(call + " of " + v, open.on(x, v), NUMBER);
        }
    }

    /** Ends the test's program: with 1 if a check failed. */
    void end() {
        System.out.println(name + ": " + checks + " checks of " + sentences.size() + " sentences, promises "
                + promises + ", " + wrong + " wrong");
        if (wrong != 0) {
            System.exit(1);
        }
    }

    /** A court whose clock is at that day. */
    static VeinCourt courtOn(int day) {
        VeinCourt x = new VeinCourt();
        for (int left = day; left > 0; left -= 100) {
            x.day(Math.min(left, 100));
        }
        return x;
    }

    /** A court on day 20 with one fact of each kind, the fact's number being its kind's. */
    static VeinCourt courtOfAllKinds() {
        VeinCourt x = courtOn(20);
        x.stake(2, 1, 30, 1);
        x.work(3, 0);
        x.nick(4, 0, 2);
        x.give(20, 0);
        x.view(5, 0, 26, 34);
        x.sell(6, 0, 1, 3, 4);
        x.dig(7, 1, 30, 5);
        return x;
    }

    /** A court on day 20 with 90 facts: fact 0 a stake, the others digs. */
    static VeinCourt courtOfNinety() {
        VeinCourt x = courtOn(20);
        x.stake(0, 0, 30, 1);
        for (int fact = 1; fact < 90; fact++) {
            x.dig(0, 0, 30, 1000);
        }
        return x;
    }

    /** A court on day 20 with 20 stakes of miner 1, one beside the other. */
    static VeinCourt courtOfTwentyStakes() {
        VeinCourt x = courtOn(20);
        for (int i = 0; i < 20; i++) {
            x.stake(i, i % 4, 5 + i / 4 * 11, 1);
        }
        return x;
    }
}
