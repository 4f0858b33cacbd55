/**
 * A miners' court: claims along veins, the elder ones first, kept by work, taken by three nicks,
 * viewed, sold by shares, and told for any day as it was known on any day.
 *
 * <p>Nothing that follows from the facts is held: every question goes through them anew, because a
 * fact about an early day, or a withdrawal, may turn all that comes behind it.
 */
public final class VeinCourt {
    public static final int NUMBER = -1;
    public static final int FULL = -2;
    public static final int KIND = -3;
    public static final int NONE = -4;
    public static final int TWICE = -5;

    private static final int DONE = 1;

    private static final int LAST_DAY = 999;
    private static final int MOST_DAYS_ON = 100;
    private static final int VEINS = 4;
    private static final int FEET = 60;
    private static final int MINERS = 10;
    private static final int NOBODY = 10;
    private static final int MOST_FACTS = 90;
    private static final int MOST_STAKES = 20;
    private static final int MOST_REACH = 10;
    private static final int MOST_IDLE_DAYS = 30;
    private static final int ALL_SHARES = 24;
    private static final int MOST_ORE = 1000;
    private static final int NICKS_TO_TAKE = 3;
    private static final int DAYS_OF_NICKS = 10;
    private static final int DUG_FOR_ONE_DUE = 10 * ALL_SHARES;

    private static final int A_STAKE = 0;
    private static final int A_WORK = 1;
    private static final int A_NICK = 2;
    private static final int A_GIVING_UP = 3;
    private static final int A_VIEW = 4;
    private static final int A_SALE = 5;
    private static final int A_DIG = 6;

    // The columns of a fact's row: the first ten are those that fact() numbers, in its order.
    private static final int ITS_KIND = 0;
    private static final int ABOUT = 1;
    private static final int TOLD = 2;
    private static final int WITHDRAWN = 3;
    private static final int VEIN = 4;
    private static final int MINER = 5;
    private static final int FIRST = 6;
    private static final int LAST = 7;
    private static final int AMOUNT = 8;
    private static final int CLAIM = 9;
    private static final int BUYER = 10;
    private static final int COLUMNS = 11;

    private final Book book;
    private final Book keptBook;
    private boolean anythingKept;
    private int reach;
    private int idleDays;
    private final Standing standing;
    private final int[] holders;

    public VeinCourt() {
        book = new Book();
        keptBook = new Book();
        anythingKept = false;
        reach = 5;
        idleDays = 10;
        standing = new Standing();
        holders = new int[VEINS * FEET];
    }

    // ---- what is told

    public int day(int n) {
        if (!isWithin(n, 0, MOST_DAYS_ON) || book.clock + n > LAST_DAY) {
            return NUMBER;
        }
        book.clock += n;
        return book.clock;
    }

    public int rule(int what, int v) {
        if (what == 0 && isWithin(v, 1, MOST_REACH)) {
            int was = reach;
            reach = v;
            return was;
        }
        if (what == 1 && isWithin(v, 1, MOST_IDLE_DAYS)) {
            int was = idleDays;
            idleDays = v;
            return was;
        }
        return NUMBER;
    }

    public int stake(int about, int vein, int foot, int miner) {
        if (!isPast(about) || !isVein(vein) || !isFoot(foot) || !isMiner(miner)) {
            return NUMBER;
        }
        if (book.isFull() || book.stakes >= MOST_STAKES) {
            return FULL;
        }
        int fact = book.append(A_STAKE, about, vein);
        book.put(fact, CLAIM, fact);
        book.put(fact, MINER, miner);
        book.putFeet(fact, Math.max(foot - reach, 0), Math.min(foot + reach, FEET - 1));
        book.stakes++;
        return fact;
    }

    public int work(int about, int claim) {
        int refusal = refusalOfClaim(true, about, claim);
        return refusal < 0 ? refusal : book.appendOf(A_WORK, about, claim);
    }

    public int nick(int about, int claim, int miner) {
        int refusal = refusalOfClaim(isMiner(miner), about, claim);
        if (refusal < 0) {
            return refusal;
        }
        int fact = book.appendOf(A_NICK, about, claim);
        book.put(fact, MINER, miner);
        return fact;
    }

    public int give(int about, int claim) {
        int refusal = refusalOfClaim(true, about, claim);
        return refusal < 0 ? refusal : book.appendOf(A_GIVING_UP, about, claim);
    }

    public int view(int about, int claim, int a, int b) {
        int refusal = refusalOfClaim(isFoot(a) && isFoot(b) && a <= b, about, claim);
        if (refusal < 0) {
            return refusal;
        }
        int fact = book.appendOf(A_VIEW, about, claim);
        book.putFeet(fact, a, b);
        return fact;
    }

    public int sell(int about, int claim, int miner, int other, int n) {
        boolean fits = isMiner(miner) && isMiner(other) && miner != other && isWithin(n, 1, ALL_SHARES);
        int refusal = refusalOfClaim(fits, about, claim);
        if (refusal < 0) {
            return refusal;
        }
        int fact = book.appendOf(A_SALE, about, claim);
        book.put(fact, MINER, miner);
        book.put(fact, BUYER, other);
        book.put(fact, AMOUNT, n);
        return fact;
    }

    public int dig(int about, int vein, int foot, int n) {
        if (!isPast(about) || !isVein(vein) || !isFoot(foot) || !isWithin(n, 1, MOST_ORE)) {
            return NUMBER;
        }
        if (book.isFull()) {
            return FULL;
        }
        int fact = book.append(A_DIG, about, vein);
        book.putFeet(fact, foot, foot);
        book.put(fact, AMOUNT, n);
        return fact;
    }

    public int withdraw(int fact) {
        if (!book.has(fact)) {
            return NUMBER;
        }
        if (book.isWithdrawn(fact)) {
            return TWICE;
        }
        book.put(fact, WITHDRAWN, book.clock);
        return DONE;
    }

    public int fact(int fact, int what) {
        if (!book.has(fact) || !isWithin(what, ITS_KIND, CLAIM)) {
            return NUMBER;
        }
        return book.get(fact, what);
    }

    // ---- how it stands

    public int owner(int vein, int foot, int day, int known) {
        if (!isVein(vein) || !isFoot(foot) || !areDays(day, known)) {
            return NUMBER;
        }
        goThrough(day, known);
        return standing.holderOver(vein, foot);
    }

    public int claim(int vein, int foot, int day, int known) {
        if (!isVein(vein) || !isFoot(foot) || !areDays(day, known)) {
            return NUMBER;
        }
        goThrough(day, known);
        Claim eldest = standing.eldestOver(vein, foot);
        return eldest == null ? NONE : eldest.number;
    }

    public int of(int claim, int what, int day, int known) {
        if (!book.has(claim) || !areDays(day, known) || !isWithin(what, 0, 6)) {
            return NUMBER;
        }
        if (!book.isStake(claim)) {
            return KIND;
        }
        goThrough(day, known);
        Claim asked = standing.find(claim);
        return asked == null ? NONE : tellOf(asked, what, day);
    }

    public int share(int claim, int miner, int day, int known) {
        if (!book.has(claim) || !isMiner(miner) || !areDays(day, known)) {
            return NUMBER;
        }
        if (!book.isStake(claim)) {
            return KIND;
        }
        goThrough(day, known);
        Claim asked = standing.find(claim);
        return asked == null ? NONE : asked.shares[miner];
    }

    public int feet(int miner, int day, int known) {
        if (!isMiner(miner) || !areDays(day, known)) {
            return NUMBER;
        }
        goThrough(day, known);
        int count = 0;
        for (int vein = 0; vein < VEINS; vein++) {
            for (int foot = 0; foot < FEET; foot++) {
                if (standing.holderOver(vein, foot) == miner) {
                    count++;
                }
            }
        }
        return count;
    }

    public int contested(int vein, int day, int known) {
        if (!isVein(vein) || !areDays(day, known)) {
            return NUMBER;
        }
        goThrough(day, known);
        int count = 0;
        for (int foot = 0; foot < FEET; foot++) {
            if (standing.countOver(vein, foot) >= 2) {
                count++;
            }
        }
        return count;
    }

    public int dug(int miner, int day, int known) {
        if (!isWithin(miner, 0, NOBODY) || !areDays(day, known)) {
            return NUMBER;
        }
        goThrough(day, known);
        return standing.ore[miner];
    }

    public int due(int miner, int day, int known) {
        if (!isMiner(miner) || !areDays(day, known)) {
            return NUMBER;
        }
        goThrough(day, known);
        return standing.ore[miner] / DUG_FOR_ONE_DUE;
    }

    public int changed(int day, int known, int other) {
        if (!areDays(day, known) || !isDay(other)) {
            return NUMBER;
        }
        goThrough(day, known);
        noteHolders();
        goThrough(day, other);
        int count = 0;
        for (int place = 0; place < holders.length; place++) {
            if (holders[place] != standing.holderOver(place / FEET, place % FEET)) {
                count++;
            }
        }
        return count;
    }

    public int many(int what) {
        switch (what) {
            case 0:
                return book.count;
            case 1:
                return book.stakes;
            case 2:
                return book.countWithdrawn();
            case 3:
                return book.clock;
            case 4:
                return reach;
            case 5:
                return idleDays;
            default:
                return NUMBER;
        }
    }

    // ---- kept

    public int keep() {
        keptBook.copyFrom(book);
        anythingKept = true;
        return DONE;
    }

    public int back() {
        if (!anythingKept) {
            return NONE;
        }
        book.copyFrom(keptBook);
        return DONE;
    }

    // ---- helpers

    private static boolean isWithin(int v, int least, int most) {
        return v >= least && v <= most;
    }

    private static boolean isVein(int vein) {
        return isWithin(vein, 0, VEINS - 1);
    }

    private static boolean isFoot(int foot) {
        return isWithin(foot, 0, FEET - 1);
    }

    private static boolean isMiner(int miner) {
        return isWithin(miner, 0, MINERS - 1);
    }

    private static boolean isDay(int day) {
        return isWithin(day, 0, LAST_DAY);
    }

    private static boolean areDays(int day, int known) {
        return isDay(day) && isDay(known);
    }

    private boolean isPast(int about) {
        return isWithin(about, 0, book.clock);
    }

    /** What a fact of a claim is refused with, or 0; fits tells whether its own numbers may be. */
    private int refusalOfClaim(boolean fits, int about, int claim) {
        if (!fits || !isPast(about) || !book.has(claim)) {
            return NUMBER;
        }
        if (!book.isStake(claim)) {
            return KIND;
        }
        return book.isFull() ? FULL : 0;
    }

    private void goThrough(int day, int known) {
        standing.goThrough(book, day, known, idleDays);
    }

    private void noteHolders() {
        for (int place = 0; place < holders.length; place++) {
            holders[place] = standing.holderOver(place / FEET, place % FEET);
        }
    }

    private int tellOf(Claim asked, int what, int day) {
        switch (what) {
            case 0:
                return asked.holder;
            case 1:
                return asked.first;
            case 2:
                return asked.last;
            case 3:
                return asked.worked;
            case 4:
                return asked.isIdle(day, idleDays) ? 1 : 0;
            case 5:
                return asked.nicks;
            default:
                return standing.countOwned(asked);
        }
    }

    /** The clock and all facts: what is kept and brought back as one. */
    private static final class Book {
        private int clock;
        private int count;
        private int stakes;
        private final int[] cells = new int[MOST_FACTS * COLUMNS];
        // The facts' numbers by the days that they are about, of one day by number.
        private final int[] order = new int[MOST_FACTS];

        boolean has(int fact) {
            return fact >= 0 && fact < count;
        }

        boolean isFull() {
            return count >= MOST_FACTS;
        }

        boolean isStake(int fact) {
            return get(fact, ITS_KIND) == A_STAKE;
        }

        boolean isWithdrawn(int fact) {
            return get(fact, WITHDRAWN) != NONE;
        }

        boolean isKnown(int fact, int known) {
            boolean withdrawnByThen = isWithdrawn(fact) && get(fact, WITHDRAWN) <= known;
            return get(fact, TOLD) <= known && !withdrawnByThen;
        }

        int countWithdrawn() {
            int withdrawn = 0;
            for (int fact = 0; fact < count; fact++) {
                if (isWithdrawn(fact)) {
                    withdrawn++;
                }
            }
            return withdrawn;
        }

        int get(int fact, int column) {
            return cells[fact * COLUMNS + column];
        }

        void put(int fact, int column, int v) {
            cells[fact * COLUMNS + column] = v;
        }

        void putFeet(int fact, int first, int last) {
            put(fact, FIRST, first);
            put(fact, LAST, last);
        }

        int appendOf(int kind, int about, int claim) {
            int fact = append(kind, about, get(claim, VEIN));
            put(fact, CLAIM, claim);
            return fact;
        }

        /** A new fact, told now; the caller has looked that the book isn't full. */
        int append(int kind, int about, int vein) {
            int fact = count;
            for (int column = 0; column < COLUMNS; column++) {
                put(fact, column, NONE);
            }
            put(fact, ITS_KIND, kind);
            put(fact, ABOUT, about);
            put(fact, TOLD, clock);
            put(fact, VEIN, vein);
            put(fact, AMOUNT, 0);
            setInOrder(fact, about);
            count++;
            return fact;
        }

        private void setInOrder(int fact, int about) {
            int at = count;
            while (at > 0 && get(order[at - 1], ABOUT) > about) {
                order[at] = order[at - 1];
                at--;
            }
            order[at] = fact;
        }

        void copyFrom(Book from) {
            clock = from.clock;
            count = from.count;
            stakes = from.stakes;
            System.arraycopy(from.cells, 0, cells, 0, cells.length);
            System.arraycopy(from.order, 0, order, 0, order.length);
        }
    }

    /** How one claim stands, up to the fact that was gone through last. */
    private static final class Claim {
        private boolean stands;
        private int number;
        private int vein;
        private int first;
        private int last;
        private int holder;
        private int worked;
        private int nicks;
        private int nicker;
        private int firstNick;
        private int lastNick;
        private final int[] shares = new int[MINERS];

        void begin(Book told, int fact) {
            stands = true;
            number = fact;
            vein = told.get(fact, VEIN);
            setFeet(told.get(fact, FIRST), told.get(fact, LAST));
            passTo(told.get(fact, MINER), told.get(fact, ABOUT));
        }

        void turn(Book told, int fact, int idleDays) {
            int about = told.get(fact, ABOUT);
            switch (told.get(fact, ITS_KIND)) {
                case A_WORK:
                    setWorked(about);
                    break;
                case A_NICK:
                    takeNick(told.get(fact, MINER), about, idleDays);
                    break;
                case A_GIVING_UP:
                    stands = false;
                    break;
                case A_VIEW:
                    setFeet(told.get(fact, FIRST), told.get(fact, LAST));
                    break;
                case A_SALE:
                    moveShares(told.get(fact, MINER), told.get(fact, BUYER), told.get(fact, AMOUNT));
                    break;
                default:
                    break;
            }
        }

        boolean isOver(int veinAsked, int foot) {
            return stands && vein == veinAsked && isWithin(foot, first, last);
        }

        boolean isIdle(int day, int idleDays) {
            return day - worked > idleDays;
        }

        private void setFeet(int from, int to) {
            first = from;
            last = to;
        }

        private void setWorked(int day) {
            worked = day;
            nicks = 0;
        }

        private void passTo(int miner, int day) {
            holder = miner;
            for (int each = 0; each < MINERS; each++) {
                shares[each] = each == miner ? ALL_SHARES : 0;
            }
            setWorked(day);
        }

        private void takeNick(int miner, int day, int idleDays) {
            if (miner == holder || !isIdle(day, idleDays)) {
                return;
            }
            if (miner != nicker || day - firstNick > DAYS_OF_NICKS) {
                nicks = 0;
            }
            if (nicks > 0 && lastNick == day) {
                return;
            }
            addNick(miner, day);
            if (nicks >= NICKS_TO_TAKE) {
                passTo(miner, day);
            }
        }

        private void addNick(int miner, int day) {
            if (nicks == 0) {
                firstNick = day;
            }
            nicker = miner;
            lastNick = day;
            nicks++;
        }

        private void moveShares(int from, int to, int n) {
            if (shares[from] >= n) {
                shares[from] -= n;
                shares[to] += n;
            }
        }
    }

    /** How it stands for a day as known on a day; made anew for each question. */
    private static final class Standing {
        private int count;
        // Stakes are gone through by day and number, so that the elder claim always comes first here.
        private final Claim[] claims = new Claim[MOST_STAKES];
        private final int[] ore = new int[MINERS + 1];

        Standing() {
            for (int i = 0; i < MOST_STAKES; i++) {
                claims[i] = new Claim();
            }
        }

        void goThrough(Book told, int day, int known, int idleDays) {
            clear();
            for (int i = 0; i < told.count; i++) {
                int fact = told.order[i];
                if (told.get(fact, ABOUT) > day) {
                    return;
                }
                if (told.isKnown(fact, known)) {
                    apply(told, fact, idleDays);
                }
            }
        }

        /** The claim of that number if it stands, or null. */
        Claim find(int number) {
            for (int i = 0; i < count; i++) {
                if (claims[i].stands && claims[i].number == number) {
                    return claims[i];
                }
            }
            return null;
        }

        /** The owner of a foot, or null. */
        Claim eldestOver(int vein, int foot) {
            for (int i = 0; i < count; i++) {
                if (claims[i].isOver(vein, foot)) {
                    return claims[i];
                }
            }
            return null;
        }

        int holderOver(int vein, int foot) {
            Claim eldest = eldestOver(vein, foot);
            return eldest == null ? NONE : eldest.holder;
        }

        int countOver(int vein, int foot) {
            int over = 0;
            for (int i = 0; i < count; i++) {
                if (claims[i].isOver(vein, foot)) {
                    over++;
                }
            }
            return over;
        }

        int countOwned(Claim asked) {
            int owned = 0;
            for (int foot = asked.first; foot <= asked.last; foot++) {
                Claim eldest = eldestOver(asked.vein, foot);
                if (eldest != null && eldest.number == asked.number) {
                    owned++;
                }
            }
            return owned;
        }

        private void clear() {
            count = 0;
            for (int i = 0; i < ore.length; i++) {
                ore[i] = 0;
            }
        }

        private void apply(Book told, int fact, int idleDays) {
            int kind = told.get(fact, ITS_KIND);
            if (kind == A_STAKE) {
                addClaim(told, fact);
            } else if (kind == A_DIG) {
                bringOre(told.get(fact, VEIN), told.get(fact, FIRST), told.get(fact, AMOUNT));
            } else {
                Claim asked = find(told.get(fact, CLAIM));
                if (asked != null) {
                    asked.turn(told, fact, idleDays);
                }
            }
        }

        private void addClaim(Book told, int fact) {
            if (count < MOST_STAKES) {
                claims[count].begin(told, fact);
                count++;
            }
        }

        private void bringOre(int vein, int foot, int n) {
            Claim eldest = eldestOver(vein, foot);
            if (eldest == null) {
                ore[NOBODY] += n * ALL_SHARES;
                return;
            }
            for (int miner = 0; miner < MINERS; miner++) {
                ore[miner] += n * eldest.shares[miner];
            }
        }
    }
}
