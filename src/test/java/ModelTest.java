import java.util.ArrayList;
import java.util.Comparator;
import java.util.List;
import java.util.Random;

/** Random runs of calls, each answer held against a slow model that is built another way. */
public final class ModelTest {
    private static final int RUNS = 1500;
    private static final int CALLS = 512;

    /** A fact of the model; withdrawn is null while it isn't. */
    private record Told(int number, int kind, int about, int told, Integer withdrawn, int vein, int claim,
            int miner, int other, int a, int b, int n) {
        Told withdrawnOn(int day) {
            return new Told(number, kind, about, told, day, vein, claim, miner, other, a, b, n);
        }

        boolean isKnown(int k) {
            return told <= k && (withdrawn == null || withdrawn > k);
        }

        boolean isAheadOf(Told other) {
            return about < other.about || about == other.about && number < other.number;
        }
    }

    /** How a claim stands, found from the facts of that claim alone. */
    private static final class State {
        Told stake;
        int holder;
        int first;
        int last;
        int worked;
        int nicker;
        List<Integer> nicks = new ArrayList<>();
        int[] shares = new int[10];
    }

    private static final class Model {
        int clock = 0;
        int reach = 5;
        int idle = 10;
        List<Told> facts = new ArrayList<>();
        List<Told> keptFacts = null;
        int keptClock = 0;

        boolean in(int v, int least, int most) {
            return v >= least && v <= most;
        }

        boolean days(int... days) {
            for (int d : days) {
                if (!in(d, 0, 999)) {
                    return false;
                }
            }
            return true;
        }

        int stakes() {
            return (int) facts.stream().filter(f -> f.kind == 0).count();
        }

        int tell(int kind, int about, int vein, int claim, int[] rest) {
            int number = facts.size();
            facts.add(new Told(number, kind, about, clock, null, vein, claim < 0 ? number : claim,
                    rest[0], rest[1], rest[2], rest[3], rest[4]));
            return number;
        }

        int tellOf(int kind, int about, int claim, boolean fits, int[] rest) {
            if (!in(about, 0, clock) || !in(claim, 0, facts.size() - 1) || !fits) {
                return -1;
            }
            if (facts.get(claim).kind != 0) {
                return -3;
            }
            return facts.size() == 90 ? -2 : tell(kind, about, facts.get(claim).vein, claim, rest);
        }

        /** The claim as it stands behind all facts that are kept in view, or null. */
        State stateOf(int claim, List<Told> inView) {
            State s = null;
            for (Told f : inView) {
                if (f.kind == 6 || f.claim != claim) {
                    continue;
                }
                if (f.kind == 0) {
                    s = new State();
                    s.stake = f;
                    s.first = f.a;
                    s.last = f.b;
                    hold(s, f.miner, f.about);
                } else if (s != null && f.kind == 3) {
                    return null;
                } else if (s != null) {
                    turn(s, f);
                }
            }
            return s;
        }

        void hold(State s, int miner, int day) {
            s.holder = miner;
            s.shares = new int[10];
            s.shares[miner] = 24;
            s.worked = day;
            s.nicks.clear();
        }

        void turn(State s, Told f) {
            if (f.kind == 1) {
                s.worked = f.about;
                s.nicks.clear();
            } else if (f.kind == 4) {
                s.first = f.a;
                s.last = f.b;
            } else if (f.kind == 5 && s.shares[f.miner] >= f.n) {
                s.shares[f.miner] -= f.n;
                s.shares[f.other] += f.n;
            } else if (f.kind == 2 && f.about - s.worked > idle && f.miner != s.holder) {
                if (!s.nicks.isEmpty() && (s.nicker != f.miner || f.about - s.nicks.get(0) > 10)) {
                    s.nicks.clear();
                }
                if (!s.nicks.contains(f.about)) {
                    s.nicks.add(f.about);
                    s.nicker = f.miner;
                }
                if (s.nicks.size() == 3) {
                    hold(s, f.miner, f.about);
                }
            }
        }

        List<Told> view(int d, int k) {
            return facts.stream().filter(f -> f.about <= d && f.isKnown(k))
                    .sorted(Comparator.comparingInt(Told::about).thenComparingInt(Told::number)).toList();
        }

        List<State> standing(List<Told> inView) {
            List<State> all = new ArrayList<>();
            for (Told f : facts) {
                State s = f.kind == 0 ? stateOf(f.number, inView) : null;
                if (s != null) {
                    all.add(s);
                }
            }
            return all;
        }

        List<State> over(List<State> all, int vein, int foot) {
            return all.stream().filter(s -> s.stake.vein == vein && s.first <= foot && foot <= s.last).toList();
        }

        State ownerOf(List<State> all, int vein, int foot) {
            State best = null;
            for (State s : over(all, vein, foot)) {
                if (best == null || s.stake.isAheadOf(best.stake)) {
                    best = s;
                }
            }
            return best;
        }

        int holderOf(List<State> all, int vein, int foot) {
            State s = ownerOf(all, vein, foot);
            return s == null ? -4 : s.holder;
        }

        int dug(int miner, int d, int k) {
            List<Told> inView = view(d, k);
            int sum = 0;
            for (int i = 0; i < inView.size(); i++) {
                Told f = inView.get(i);
                if (f.kind == 6) {
                    State s = ownerOf(standing(inView.subList(0, i)), f.vein, f.a);
                    sum += s == null ? (miner == 10 ? 24 * f.n : 0) : miner == 10 ? 0 : s.shares[miner] * f.n;
                }
            }
            return sum;
        }

        int of(State s, int what, int d, int k) {
            switch (what) {
                case 0: return s.holder;
                case 1: return s.first;
                case 2: return s.last;
                case 3: return s.worked;
                case 4: return d - s.worked > idle ? 1 : 0;
                case 5: return s.nicks.size();
                default: break;
            }
            List<State> all = standing(view(d, k));
            int count = 0;
            for (int foot = 0; foot < 60; foot++) {
                State o = ownerOf(all, s.stake.vein, foot);
                count += o != null && o.stake.number == s.stake.number ? 1 : 0;
            }
            return count;
        }

        int factOf(Told f, int what) {
            boolean withMiner = f.kind == 0 || f.kind == 2 || f.kind == 5;
            boolean withFeet = f.kind == 0 || f.kind == 4 || f.kind == 6;
            int[] row = {f.kind, f.about, f.told, f.withdrawn == null ? -4 : f.withdrawn, f.vein,
                withMiner ? f.miner : -4, withFeet ? f.a : -4, withFeet ? f.b : -4,
                f.kind == 5 || f.kind == 6 ? f.n : 0, f.kind == 6 ? -4 : f.claim};
            return row[what];
        }

        int tellCall(int call, int[] v) {
            switch (call) {
                case 0:
                    if (!in(v[0], 0, 100) || clock + v[0] > 999) {
                        return -1;
                    }
                    clock += v[0];
                    return clock;
                case 1: {
                    if (!in(v[0], 0, 1) || !in(v[1], 1, v[0] == 0 ? 10 : 30)) {
                        return -1;
                    }
                    int was = v[0] == 0 ? reach : idle;
                    if (v[0] == 0) {
                        reach = v[1];
                    } else {
                        idle = v[1];
                    }
                    return was;
                }
                case 2:
                    if (!in(v[0], 0, clock) || !in(v[1], 0, 3) || !in(v[2], 0, 59) || !in(v[3], 0, 9)) {
                        return -1;
                    }
                    return facts.size() == 90 || stakes() == 20 ? -2 : tell(0, v[0], v[1], -1,
                            new int[] {v[3], -1, Math.max(0, v[2] - reach), Math.min(59, v[2] + reach), 0});
                case 3: return tellOf(1, v[0], v[1], true, new int[5]);
                case 4: return tellOf(2, v[0], v[1], in(v[2], 0, 9), new int[] {v[2], 0, 0, 0, 0});
                case 5: return tellOf(3, v[0], v[1], true, new int[5]);
                case 6: return tellOf(4, v[0], v[1], in(v[2], 0, 59) && in(v[3], v[2], 59),
                        new int[] {0, 0, v[2], v[3], 0});
                case 7: return tellOf(5, v[0], v[1],
                        in(v[2], 0, 9) && in(v[3], 0, 9) && v[2] != v[3] && in(v[4], 1, 24),
                        new int[] {v[2], v[3], 0, 0, v[4]});
                case 8:
                    if (!in(v[0], 0, clock) || !in(v[1], 0, 3) || !in(v[2], 0, 59) || !in(v[3], 1, 1000)) {
                        return -1;
                    }
                    return facts.size() == 90 ? -2 : tell(6, v[0], v[1], -1, new int[] {0, 0, v[2], v[2], v[3]});
                case 9:
                    if (!in(v[0], 0, facts.size() - 1)) {
                        return -1;
                    }
                    if (facts.get(v[0]).withdrawn != null) {
                        return -5;
                    }
                    facts.set(v[0], facts.get(v[0]).withdrawnOn(clock));
                    return 1;
                default:
                    return in(v[0], 0, facts.size() - 1) && in(v[1], 0, 9) ? factOf(facts.get(v[0]), v[1]) : -1;
            }
        }

        int claimCall(int[] v, boolean share) {
            if (!in(v[0], 0, facts.size() - 1) || !in(v[1], 0, share ? 9 : 6) || !days(v[2], v[3])) {
                return -1;
            }
            if (facts.get(v[0]).kind != 0) {
                return -3;
            }
            State s = stateOf(v[0], view(v[2], v[3]));
            return s == null ? -4 : share ? s.shares[v[1]] : of(s, v[1], v[2], v[3]);
        }

        int countFeet(int miner, int d, int k) {
            List<State> all = standing(view(d, k));
            int count = 0;
            for (int i = 0; i < 240; i++) {
                count += holderOf(all, i / 60, i % 60) == miner ? 1 : 0;
            }
            return count;
        }

        int countContested(int vein, int d, int k) {
            List<State> all = standing(view(d, k));
            int count = 0;
            for (int foot = 0; foot < 60; foot++) {
                count += over(all, vein, foot).size() > 1 ? 1 : 0;
            }
            return count;
        }

        int countChanged(int d, int k, int other) {
            List<State> one = standing(view(d, k));
            List<State> two = standing(view(d, other));
            int count = 0;
            for (int i = 0; i < 240; i++) {
                count += holderOf(one, i / 60, i % 60) != holderOf(two, i / 60, i % 60) ? 1 : 0;
            }
            return count;
        }

        int askCall(int call, int[] v) {
            switch (call) {
                case 11:
                case 12: {
                    if (!in(v[0], 0, 3) || !in(v[1], 0, 59) || !days(v[2], v[3])) {
                        return -1;
                    }
                    State s = ownerOf(standing(view(v[2], v[3])), v[0], v[1]);
                    return s == null ? -4 : call == 11 ? s.holder : s.stake.number;
                }
                case 13: return claimCall(v, false);
                case 14: return claimCall(v, true);
                case 15: return in(v[0], 0, 9) && days(v[1], v[2]) ? countFeet(v[0], v[1], v[2]) : -1;
                case 16: return in(v[0], 0, 3) && days(v[1], v[2]) ? countContested(v[0], v[1], v[2]) : -1;
                case 17: return in(v[0], 0, 10) && days(v[1], v[2]) ? dug(v[0], v[1], v[2]) : -1;
                case 18: return in(v[0], 0, 9) && days(v[1], v[2]) ? dug(v[0], v[1], v[2]) / 24 / 10 : -1;
                case 19: return days(v[0], v[1], v[2]) ? countChanged(v[0], v[1], v[2]) : -1;
                default: break;
            }
            int withdrawn = (int) facts.stream().filter(f -> f.withdrawn != null).count();
            int[] row = {facts.size(), stakes(), withdrawn, clock, reach, idle};
            return in(v[0], 0, 5) ? row[v[0]] : -1;
        }

        int keptCall(int call) {
            if (call == 21) {
                keptFacts = new ArrayList<>(facts);
                keptClock = clock;
                return 1;
            }
            if (keptFacts == null) {
                return -4;
            }
            facts = new ArrayList<>(keptFacts);
            clock = keptClock;
            return 1;
        }

        int call(int call, int[] v) {
            return call <= 10 ? tellCall(call, v) : call <= 20 ? askCall(call, v) : keptCall(call);
        }
    }

    private static final String[] NAMES = {"day", "rule", "stake", "work", "nick", "give", "view", "sell", "dig",
        "withdraw", "fact", "owner", "claim", "of", "share", "feet", "contested", "dug", "due", "changed", "many",
        "keep", "back"};

    // What each argument is: a about, c claim or fact, v vein, f foot, m miner, s shares, o ore,
    // d day, n days on, or a digit: a what up to that.
    private static final String[] ARGS = {"n", "1r", "avfm", "ac", "acm", "ac", "acff", "acmms", "avfo",
        "c", "c9", "vfdd", "vfdd", "c6dd", "cmdd", "mdd", "vdd", "Mdd", "mdd", "ddd", "5", "", ""};

    private static final int[] WEIGHTS = {40, 8, 30, 30, 90, 8, 20, 40, 40, 20, 15, 20, 20, 60, 30, 15, 15, 30, 12,
        20, 8, 3, 3};

    private static int callReal(VeinCourt x, int call, int[] v) {
        switch (call) {
            case 0: return x.day(v[0]);
            case 1: return x.rule(v[0], v[1]);
            case 2: return x.stake(v[0], v[1], v[2], v[3]);
            case 3: return x.work(v[0], v[1]);
            case 4: return x.nick(v[0], v[1], v[2]);
            case 5: return x.give(v[0], v[1]);
            case 6: return x.view(v[0], v[1], v[2], v[3]);
            case 7: return x.sell(v[0], v[1], v[2], v[3], v[4]);
            case 8: return x.dig(v[0], v[1], v[2], v[3]);
            case 9: return x.withdraw(v[0]);
            case 10: return x.fact(v[0], v[1]);
            case 11: return x.owner(v[0], v[1], v[2], v[3]);
            case 12: return x.claim(v[0], v[1], v[2], v[3]);
            case 13: return x.of(v[0], v[1], v[2], v[3]);
            case 14: return x.share(v[0], v[1], v[2], v[3]);
            case 15: return x.feet(v[0], v[1], v[2]);
            case 16: return x.contested(v[0], v[1], v[2]);
            case 17: return x.dug(v[0], v[1], v[2]);
            case 18: return x.due(v[0], v[1], v[2]);
            case 19: return x.changed(v[0], v[1], v[2]);
            case 20: return x.many(v[0]);
            case 21: return x.keep();
            default: return x.back();
        }
    }

    /** One run's taste: small courts make claims meet, great ones reach the limits. */
    private record Taste(int veins, int feet, int miners, int step, int claims) {
        static Taste of(Random r) {
            return new Taste(1 + r.nextInt(4), 1 + r.nextInt(60), 2 + r.nextInt(9), 1 + r.nextInt(r.nextInt(5) == 0
                    ? 100 : 6), 1 + r.nextInt(r.nextBoolean() ? 4 : 40));
        }
    }

    private static int wild(Random r) {
        int[] some = {-1, -2, 10, 11, 24, 25, 60, 90, 100, 101, 999, 1000, 1001, Integer.MIN_VALUE, Integer.MAX_VALUE};
        return r.nextBoolean() ? some[r.nextInt(some.length)] : r.nextInt();
    }

    private static int about(Random r, int clock) {
        return r.nextInt(3) == 0 ? r.nextInt(clock + 1) : Math.max(0, clock - r.nextInt(14));
    }

    private static int argument(Random r, char kind, Taste t, Model m) {
        if (r.nextInt(60) == 0) {
            return wild(r);
        }
        switch (kind) {
            case 'n': return r.nextInt(t.step + 1);
            case 'r': return 1 + r.nextInt(12);
            case 'a': return about(r, m.clock);
            case 'c': return r.nextInt(5) > 0 ? stakeOf(r, m, t) : r.nextInt(m.facts.size() + 1);
            case 'v': return r.nextInt(t.veins);
            case 'f': return r.nextInt(t.feet);
            case 'm': return r.nextInt(t.miners);
            case 'M': return r.nextInt(4) == 0 ? 10 : r.nextInt(t.miners);
            case 's': return 1 + r.nextInt(r.nextBoolean() ? 24 : 6);
            case 'o': return 1 + r.nextInt(r.nextBoolean() ? 1000 : 30);
            case 'd': return r.nextBoolean() ? m.clock : Math.min(999, r.nextInt(m.clock + 3));
            default: return r.nextInt(kind - '0' + 1);
        }
    }

    private static int stakeOf(Random r, Model m, Taste t) {
        List<Told> stakes = m.facts.stream().filter(f -> f.kind() == 0).toList();
        return stakes.isEmpty() ? 0 : stakes.get(r.nextInt(Math.min(stakes.size(), t.claims))).number();
    }

    private static int pick(Random r, int total) {
        int at = r.nextInt(total);
        int call = 0;
        while (at >= WEIGHTS[call]) {
            at -= WEIGHTS[call];
            call++;
        }
        return call;
    }

    private static String text(int call, int[] v) {
        StringBuilder s = new StringBuilder(NAMES[call]).append('(');
        for (int i = 0; i < v.length; i++) {
            s.append(i == 0 ? "" : ", ").append(v[i]);
        }
        return s.append(')').toString();
    }

    /** Whether the run went as the model says; the first wrong call is printed with all ahead of it. */
    private static boolean run(int seed, int total, int[][] seen) {
        Random r = new Random(seed);
        Taste t = Taste.of(r);
        VeinCourt x = new VeinCourt();
        Model m = new Model();
        StringBuilder log = new StringBuilder();
        for (int i = 0; i < CALLS; i++) {
            int call = pick(r, total);
            int[] v = new int[ARGS[call].length()];
            for (int a = 0; a < v.length; a++) {
                v[a] = argument(r, ARGS[call].charAt(a), t, m);
            }
            int want = m.call(call, v);
            int got = callReal(x, call, v);
            log.append(text(call, v)).append(" = ").append(got).append('\n');
            if (got != want) {
                System.out.println("seed " + seed + ":\n" + log + "the last one is due " + want);
                return false;
            }
            seen[call][want < 0 ? -want : want == 0 ? 0 : 6]++;
        }
        return true;
    }

    public static void main(String[] args) {
        int total = 0;
        for (int w : WEIGHTS) {
            total += w;
        }
        int[][] seen = new int[NAMES.length][7];
        int runs = args.length > 0 ? Integer.parseInt(args[0]) : RUNS;
        for (int seed = 0; seed < runs; seed++) {
            if (!run(seed, total, seen)) {
                System.exit(1);
            }
        }
        System.out.println("answers seen: 0, NUMBER, FULL, KIND, NONE, TWICE, above 0");
        for (int call = 0; call < NAMES.length; call++) {
            System.out.println("  " + NAMES[call] + " " + java.util.Arrays.toString(seen[call]));
        }
        System.out.println("model: " + runs + " runs of " + CALLS + " calls, all as the model says");
    }
}
