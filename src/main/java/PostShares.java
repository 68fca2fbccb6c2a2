import java.util.Arrays;

/**
 * A desk where allied parties share out posts. DOC.md says what each call promises; here LOTS and
 * PARTIES are numbers, and sets of POSTS, LOTS or PARTIES are bits of an int.
 */
public final class PostShares {

    public static final int NONE = -1, BAD = -2, NO = -3, FULL = -4;

    private static final int TEXT_MAX = 160;
    private static final int BYTE_MAX = 127;
    private static final int LOTS_MAX = 6;
    private static final int PARTIES_MAX = 4;
    private static final int POSTS_MAX = 12;
    private static final int STATES_MAX = 6;
    private static final int STRENGTH_MAX = 999;
    private static final int NUMBER_FIGURES = 3;
    private static final int WORTH_MAX = 99;
    private static final int WORTH_FIGURES = 2;
    private static final int RULE_MAX = 4;
    private static final int REASONS = 4;
    private static final int FAULT_BASE = -10;

    /** What told(), lot() and party() can be asked: 0 up to, not with, these. */
    private static final int TOLD_KINDS = 10;
    private static final int LOT_KINDS = 4;
    private static final int PARTY_KINDS = 6;

    private static final int WITHOUT_ITS_VETO = 0;
    private static final int WITHOUT_ANY_VETO = 1;
    private static final int WITH_ALL_VETOES = 2;

    private static final long DIGEST_START = 2269L;
    private static final long DIGEST_FACTOR = 31L;

    private final Text text;
    private final Board now;
    /** What a text tells is put here first, so that a FAULT leaves the true board as it is. */
    private final Board draft;
    private final Past past;
    private final Foresight foresight;
    private int versions;
    private int bads;
    private int nos;
    private int fulls;

    public PostShares() {
        text = new Text();
        now = new Board();
        draft = new Board();
        past = new Past();
        foresight = new Foresight();
        versions = 0;
        startAnew();
    }

    // ---- texts

    public int type(int c) {
        if (c < 0 || c > BYTE_MAX) {
            return bad();
        }
        if (text.length >= TEXT_MAX) {
            return full();
        }
        return text.add(c);
    }

    public int clear() {
        return text.wipe();
    }

    public int reads() {
        draft.tellNothing();
        if (!text.tells(draft)) {
            return FAULT_BASE - text.place;
        }
        past.keep(now);
        now.copy(draft);
        startAnew();
        return text.items;
    }

    public int reason(int what) {
        if (what < 0 || what >= REASONS) {
            return bad();
        }
        return text.reasons[what];
    }

    // ---- what there is

    public int lot(int k, int what) {
        if (!now.hasLot(k) || what < 0 || what >= LOT_KINDS) {
            return bad();
        }
        switch (what) {
            case 0:
                return now.posts[k];
            case 1:
                return now.holder[k];
            case 2:
                return now.takenAt[k];
            default:
                return bit(now.barred, k);
        }
    }

    public int party(int p, int what) {
        if (!now.hasParty(p) || what < 0 || what >= PARTY_KINDS) {
            return bad();
        }
        switch (what) {
            case 0:
                return now.strength[p];
            case 1:
                return bit(now.vetoesLeft, p);
            case 2:
                return now.sumOf(p);
            case 3:
                return now.share[p];
            case 4:
                return now.turnsHadBy(p);
            default:
                return now.allWorth(p);
        }
    }

    public int worth(int p, int k) {
        if (!now.hasParty(p) || !now.hasLot(k)) {
            return bad();
        }
        return now.value(p, k);
    }

    public int turn(int t) {
        if (t < 0) {
            return bad();
        }
        return now.ownerAt(t);
    }

    // ---- what is changed

    public int rates(int p, int k, int v) {
        if (!now.hasParty(p) || !now.hasLot(k) || v < 0 || v > WORTH_MAX) {
            return bad();
        }
        int was = now.value(p, k);
        if (was == v) {
            return no();
        }
        past.keep(now);
        now.setValue(p, k, v);
        startAnew();
        return was;
    }

    public int strength(int p, int v) {
        if (!now.hasParty(p) || v < 1 || v > STRENGTH_MAX) {
            return bad();
        }
        int was = now.strength[p];
        if (was == v) {
            return no();
        }
        past.keep(now);
        now.strength[p] = v;
        startAnew();
        return was;
    }

    public int rule(int n) {
        if (n < 0 || n > RULE_MAX) {
            return bad();
        }
        int was = now.divisors;
        if (was == n) {
            return no();
        }
        past.keep(now);
        now.divisors = n;
        startAnew();
        return was;
    }

    public int binds(int j, int k) {
        if (!now.hasLot(j) || !now.hasLot(k)) {
            return bad();
        }
        if (j == k) {
            return no();
        }
        past.keep(now);
        now.bindLots(j, k);
        startAnew();
        return now.lots;
    }

    public int joins(int p, int q) {
        if (!now.hasParty(p) || !now.hasParty(q)) {
            return bad();
        }
        if (p == q) {
            return no();
        }
        past.keep(now);
        now.joinParties(p, q);
        startAnew();
        return now.parties;
    }

    // ---- what is done

    public int takes(int k) {
        if (!now.hasLot(k)) {
            return bad();
        }
        if (!now.canTake(k)) {
            return no();
        }
        past.keep(now);
        return now.take(k);
    }

    public int vetoes(int p) {
        if (!now.hasParty(p)) {
            return bad();
        }
        if (!now.canVeto(p)) {
            return no();
        }
        past.keep(now);
        return now.veto(p);
    }

    // ---- what would come

    public int foreseen(int p) {
        if (!now.hasParty(p)) {
            return bad();
        }
        return foresight.sumInTheEnd(now, p, now.vetoesLeft);
    }

    public int best() {
        return foresight.lotTaken(now);
    }

    public int against(int k) {
        if (!now.hasLot(k)) {
            return bad();
        }
        if (!now.canTake(k)) {
            return no();
        }
        return foresight.vetoerIf(now, k);
    }

    public int taking(int k, int p) {
        if (!now.hasLot(k) || !now.hasParty(p)) {
            return bad();
        }
        if (!now.canTake(k)) {
            return no();
        }
        return foresight.sumInTheEndIf(now, k, p);
    }

    public int course(int i) {
        if (i < 0) {
            return bad();
        }
        return foresight.thing(now, i);
    }

    public int sincere(int p) {
        if (!now.hasParty(p)) {
            return bad();
        }
        return now.sincereSum(p);
    }

    public int without(int p, int what) {
        if (!now.hasParty(p)) {
            return bad();
        }
        switch (what) {
            case WITHOUT_ITS_VETO:
                return foresight.sumInTheEnd(now, p, now.vetoesLeft & ~(1 << p));
            case WITHOUT_ANY_VETO:
                return foresight.sumInTheEnd(now, p, 0);
            case WITH_ALL_VETOES:
                return foresight.sumInTheEnd(now, p, (1 << now.parties) - 1);
            default:
                return bad();
        }
    }

    // ---- what is told

    public int back() {
        if (past.count == 0) {
            return no();
        }
        past.restore(now);
        return past.count;
    }

    public int told(int what) {
        if (what < 0 || what >= TOLD_KINDS) {
            return bad();
        }
        switch (what) {
            case 0:
                return bads;
            case 1:
                return nos;
            case 2:
                return fulls;
            case 3:
                return text.length;
            case 4:
                return now.lots;
            case 5:
                return now.parties;
            case 6:
                return now.divisors;
            case 7:
                return now.had;
            case 8:
                return Integer.bitCount(now.vetoesLeft);
            default:
                return past.count;
        }
    }

    public long digest() {
        long h = DIGEST_START;
        for (int what = 0; what < TOLD_KINDS; what++) {
            h = digested(h, told(what));
        }
        for (int k = 0; k < now.lots; k++) {
            for (int what = 0; what < LOT_KINDS; what++) {
                h = digested(h, lot(k, what));
            }
        }
        for (int p = 0; p < now.parties; p++) {
            h = digestedParty(h, p);
        }
        return h;
    }

    private long digestedParty(long start, int p) {
        long h = start;
        for (int what = 0; what < PARTY_KINDS; what++) {
            h = digested(h, party(p, what));
        }
        for (int k = 0; k < now.lots; k++) {
            h = digested(h, worth(p, k));
        }
        h = digested(h, foreseen(p));
        return digested(h, sincere(p));
    }

    private static long digested(long h, int v) {
        return DIGEST_FACTOR * h + v;
    }

    /** Each board told otherwise gets a number of its own, by which the foresight knows it again. */
    private void startAnew() {
        versions = versions < Foresight.VERSIONS_MAX ? versions + 1 : 1;
        now.start(versions);
    }

    private int bad() {
        bads++;
        return BAD;
    }

    private int no() {
        nos++;
        return NO;
    }

    private int full() {
        fulls++;
        return FULL;
    }

    private static int bit(int set, int place) {
        return (set >> place) & 1;
    }

    /** LOTS and PARTIES, and what has been done with them: all that a STATE holds. */
    private static final class Board {

        int lots;
        final int[] posts = new int[LOTS_MAX];
        int parties;
        final int[] strength = new int[PARTIES_MAX];
        final int[] values = new int[PARTIES_MAX * LOTS_MAX];
        int vetoesTold;
        int divisors;
        int version;

        /** These follow from what is told: whose TURN each is, who has one behind it, how many each has. */
        final int[] owner = new int[LOTS_MAX];
        final int[] ownersBehind = new int[LOTS_MAX];
        final int[] share = new int[PARTIES_MAX];
        /** And this: who is asked first. */
        final int[] asked = new int[PARTIES_MAX];

        int had;
        final int[] holder = new int[LOTS_MAX];
        final int[] takenAt = new int[LOTS_MAX];
        int vetoesLeft;
        int barred;
        int last = NONE;
        /** What was BARRED when the last LOT was TAKEN: a VETO brings it back. */
        int barredBefore;

        boolean hasLot(int k) {
            return k >= 0 && k < lots;
        }

        boolean hasParty(int p) {
            return p >= 0 && p < parties;
        }

        int value(int p, int k) {
            int place = p * LOTS_MAX + k;
            return place >= 0 && place < values.length ? values[place] : 0;
        }

        void setValue(int p, int k, int v) {
            int place = p * LOTS_MAX + k;
            if (place >= 0 && place < values.length) {
                values[place] = v;
            }
        }

        int turnsInAll() {
            return parties == 0 ? 0 : lots;
        }

        int ownerAt(int t) {
            return t >= 0 && t < LOTS_MAX ? owner[t] : NONE;
        }

        int turnsHadBy(int p) {
            int count = 0;
            for (int t = 0; t < had; t++) {
                if (ownerAt(t) == p) {
                    count++;
                }
            }
            return count;
        }

        int sumOf(int p) {
            int sum = 0;
            for (int k = 0; k < lots; k++) {
                if (holder[k] == p) {
                    sum += value(p, k);
                }
            }
            return sum;
        }

        int allWorth(int p) {
            int sum = 0;
            for (int k = 0; k < lots; k++) {
                sum += value(p, k);
            }
            return sum;
        }

        int allPosts() {
            int all = 0;
            for (int k = 0; k < lots; k++) {
                all |= posts[k];
            }
            return all;
        }

        int freeLots() {
            int free = 0;
            for (int k = 0; k < lots; k++) {
                if (holder[k] == NONE) {
                    free |= 1 << k;
                }
            }
            return free;
        }

        void tellNothing() {
            lots = 0;
            parties = 0;
            vetoesTold = 0;
            divisors = 0;
        }

        void addLot(int itsPosts) {
            if (lots < LOTS_MAX) {
                posts[lots] = itsPosts;
                lots++;
            }
        }

        void addParty(boolean hasVeto) {
            if (parties < PARTIES_MAX) {
                if (hasVeto) {
                    vetoesTold |= 1 << parties;
                }
                parties++;
            }
        }

        void bindLots(int j, int k) {
            posts[j] |= posts[k];
            for (int p = 0; p < parties; p++) {
                setValue(p, j, Math.min(WORTH_MAX, value(p, j) + value(p, k)));
            }
            dropLot(k);
        }

        private void dropLot(int gone) {
            lots--;
            for (int k = gone; k < lots; k++) {
                posts[k] = posts[k + 1];
                for (int p = 0; p < parties; p++) {
                    setValue(p, k, value(p, k + 1));
                }
            }
        }

        void joinParties(int p, int q) {
            strength[p] = Math.min(STRENGTH_MAX, strength[p] + strength[q]);
            for (int k = 0; k < lots; k++) {
                setValue(p, k, Math.max(value(p, k), value(q, k)));
            }
            vetoesTold |= bit(vetoesTold, q) << p;
            dropParty(q);
        }

        private void dropParty(int gone) {
            parties--;
            for (int p = gone; p < parties; p++) {
                strength[p] = strength[p + 1];
                for (int k = 0; k < lots; k++) {
                    setValue(p, k, value(p + 1, k));
                }
            }
            int below = (1 << gone) - 1;
            vetoesTold = (vetoesTold & below) | ((vetoesTold >> 1) & ~below);
        }

        /** Nothing is TAKEN, VETOES are as told; what follows from strengths and divisors is found. */
        void start(int newVersion) {
            version = newVersion;
            had = 0;
            Arrays.fill(holder, NONE);
            Arrays.fill(takenAt, NONE);
            vetoesLeft = vetoesTold;
            barred = 0;
            last = NONE;
            barredBefore = 0;
            dealTurns();
            lookBehindTurns();
            rankAsked();
        }

        private void dealTurns() {
            Arrays.fill(share, 0);
            Arrays.fill(owner, NONE);
            for (int t = 0; t < turnsInAll(); t++) {
                int next = 0;
                for (int p = 1; p < parties; p++) {
                    if (comesAhead(p, next)) {
                        next = p;
                    }
                }
                owner[t] = next;
                share[next]++;
            }
        }

        private void lookBehindTurns() {
            int behind = 0;
            for (int t = turnsInAll() - 1; t >= 0; t--) {
                ownersBehind[t] = behind;
                behind |= 1 << owner[t];
            }
        }

        /** QUOTIENTS are compared crosswise, so that nothing is cut; q has the lower number. */
        private boolean comesAhead(int p, int q) {
            int mine = strength[p] * divisor(share[q]);
            int its = strength[q] * divisor(share[p]);
            return mine != its ? mine > its : strength[p] > strength[q];
        }

        /** By RULE 4 all QUOTIENTS have the same factor 5, so it can be left out of the comparing. */
        private int divisor(int turns) {
            switch (divisors) {
                case 0:
                    return turns + 1;
                case 1:
                    return 2 * turns + 1;
                case 2:
                    return turns + 2;
                case 3:
                    return 3 * turns + 1;
                default:
                    return turns == 0 ? 7 : 10 * turns + 5;
            }
        }

        private void rankAsked() {
            for (int p = 0; p < parties; p++) {
                int rank = 0;
                for (int q = 0; q < parties; q++) {
                    if (strength[q] > strength[p] || (strength[q] == strength[p] && q < p)) {
                        rank++;
                    }
                }
                asked[rank] = p;
            }
        }

        boolean canTake(int k) {
            return had < turnsInAll() && holder[k] == NONE && bit(barred, k) == 0;
        }

        int take(int k) {
            int taker = ownerAt(had);
            holder[k] = taker;
            takenAt[k] = had;
            had++;
            last = k;
            barredBefore = barred;
            barred = 0;
            return taker;
        }

        boolean canVeto(int p) {
            return bit(vetoesLeft, p) == 1 && hasLot(last) && holder[last] != p
                && (freeLots() & ~barredBefore) != 0;
        }

        int veto(int p) {
            int lot = last;
            if (!hasLot(lot)) {
                return NONE;
            }
            holder[lot] = NONE;
            takenAt[lot] = NONE;
            had--;
            last = NONE;
            barred = barredBefore | (1 << lot);
            vetoesLeft &= ~(1 << p);
            return lot;
        }

        int sincereSum(int p) {
            int sum = sumOf(p);
            int free = freeLots();
            int open = free & ~barred;
            for (int t = had; t < turnsInAll(); t++) {
                int taker = ownerAt(t);
                int lot = dearest(taker, open);
                if (!hasLot(lot)) {
                    return sum;
                }
                if (taker == p) {
                    sum += value(p, lot);
                }
                free &= ~(1 << lot);
                open = free;
            }
            return sum;
        }

        private int dearest(int p, int open) {
            int lot = NONE;
            for (int k = 0; k < lots; k++) {
                if (bit(open, k) == 1 && (lot == NONE || value(p, k) > value(p, lot))) {
                    lot = k;
                }
            }
            return lot;
        }

        void copy(Board from) {
            lots = from.lots;
            parties = from.parties;
            vetoesTold = from.vetoesTold;
            divisors = from.divisors;
            version = from.version;
            had = from.had;
            vetoesLeft = from.vetoesLeft;
            barred = from.barred;
            last = from.last;
            barredBefore = from.barredBefore;
            System.arraycopy(from.posts, 0, posts, 0, LOTS_MAX);
            System.arraycopy(from.holder, 0, holder, 0, LOTS_MAX);
            System.arraycopy(from.takenAt, 0, takenAt, 0, LOTS_MAX);
            System.arraycopy(from.owner, 0, owner, 0, LOTS_MAX);
            System.arraycopy(from.ownersBehind, 0, ownersBehind, 0, LOTS_MAX);
            System.arraycopy(from.strength, 0, strength, 0, PARTIES_MAX);
            System.arraycopy(from.share, 0, share, 0, PARTIES_MAX);
            System.arraycopy(from.asked, 0, asked, 0, PARTIES_MAX);
            System.arraycopy(from.values, 0, values, 0, PARTIES_MAX * LOTS_MAX);
        }
    }

    /** The STATES to go back to, in a ring: the newest one takes the place of the oldest. */
    private static final class Past {

        private final Board[] ring = new Board[STATES_MAX];
        private int next = 0;
        int count = 0;

        Past() {
            for (int i = 0; i < STATES_MAX; i++) {
                ring[i] = new Board();
            }
        }

        void keep(Board board) {
            Board place = ring[next];
            if (place == null) {
                return;
            }
            place.copy(board);
            next = (next + 1) % STATES_MAX;
            count = Math.min(STATES_MAX, count + 1);
        }

        void restore(Board board) {
            if (count == 0) {
                return;
            }
            next = (next + STATES_MAX - 1) % STATES_MAX;
            count--;
            Board place = ring[next];
            if (place != null) {
                board.copy(place);
            }
        }
    }

    /**
     * THE TEXT and its reader. A reading method answers false at the first byte that can not stand
     * there; place, part and which then still tell where that was and what was due.
     */
    private static final class Text {

        private static final int SIGN_PART = 0;
        private static final int POSTS_PART = 1;
        private static final int RULE_PART = 2;
        private static final int STRENGTH_PART = 3;
        private static final int WORTH_PART = 4;
        private static final int END_PART = 5;

        private final int[] bytes = new int[TEXT_MAX];
        int length = 0;
        final int[] reasons = new int[REASONS];
        int place = 0;
        int items = 0;
        private int part = SIGN_PART;
        private int which = 0;

        Text() {
            Arrays.fill(reasons, NONE);
        }

        int add(int c) {
            if (length < TEXT_MAX) {
                bytes[length] = c;
                length++;
            }
            return length;
        }

        int wipe() {
            int had = length;
            length = 0;
            return had;
        }

        /** The board gets all that is told; with a FAULT it is of no use, and REASONS are told. */
        boolean tells(Board board) {
            place = 0;
            items = 0;
            while (place < length && items < TEXT_MAX) {
                if (!readItem(board)) {
                    noteReasons();
                    return false;
                }
                items++;
            }
            return true;
        }

        private void noteReasons() {
            reasons[0] = items;
            reasons[1] = part;
            reasons[2] = which;
            reasons[3] = seen();
        }

        private int seen() {
            return place >= 0 && place < length ? bytes[place] : NONE;
        }

        private void expect(int newPart, int newWhich) {
            part = newPart;
            which = newWhich;
        }

        private boolean pass(int wanted) {
            if (seen() != wanted) {
                return false;
            }
            place++;
            return true;
        }

        private boolean readItem(Board board) {
            expect(SIGN_PART, 0);
            switch (seen()) {
                case '=':
                    return board.parties == 0 && board.lots < LOTS_MAX && readLot(board);
                case '%':
                    return readRule(board);
                case '+':
                    return board.parties < PARTIES_MAX && readParty(board);
                default:
                    return false;
            }
        }

        private boolean readLot(Board board) {
            place++;
            int elsewhere = board.allPosts();
            int posts = 0;
            // One round more than there are POSTS: a POST too many must be one that a LOT has.
            for (int i = 0; i <= POSTS_MAX; i++) {
                boolean letter = seen() >= 'a' && seen() < 'a' + POSTS_MAX;
                if (i > 0 && !letter) {
                    break;
                }
                expect(POSTS_PART, i);
                if (!letter || bit(elsewhere | posts, seen() - 'a') == 1) {
                    return false;
                }
                posts |= 1 << (seen() - 'a');
                place++;
            }
            board.addLot(posts);
            return readEnd();
        }

        private boolean readRule(Board board) {
            place++;
            expect(RULE_PART, 0);
            int number = readNumber(NUMBER_FIGURES, RULE_MAX);
            if (number == NONE) {
                return false;
            }
            board.divisors = number;
            return readEnd();
        }

        private boolean readParty(Board board) {
            place++;
            expect(STRENGTH_PART, 0);
            if (seen() == '0') {
                return false;
            }
            int strength = readNumber(NUMBER_FIGURES, STRENGTH_MAX);
            if (strength == NONE || !pass(':')) {
                return false;
            }
            board.strength[board.parties] = strength;
            for (int k = 0; k < board.lots; k++) {
                if (!readWorth(board, k)) {
                    return false;
                }
            }
            expect(END_PART, 0);
            board.addParty(pass('!'));
            return readEnd();
        }

        private boolean readWorth(Board board, int k) {
            expect(WORTH_PART, k);
            if (k > 0 && !pass(',')) {
                return false;
            }
            int value = readNumber(WORTH_FIGURES, WORTH_MAX);
            if (value == NONE) {
                return false;
            }
            board.setValue(board.parties, k, value);
            return true;
        }

        private boolean readEnd() {
            expect(END_PART, 0);
            return pass(';');
        }

        /**
         * NONE: no figure can stand here. A figure too many, or one that would make the number too great,
         * is left for what is due behind the number.
         */
        private int readNumber(int figures, int most) {
            int value = NONE;
            for (int i = 0; i < figures; i++) {
                int c = seen();
                int longer = (i == 0 ? 0 : 10 * value) + (c - '0');
                if (c < '0' || c > '9' || longer > most) {
                    return value;
                }
                value = longer;
                place++;
            }
            return value;
        }
    }

    /**
     * What all foresee. What will come depends on the LOTS that are free, those BARRED and the VETOES
     * left, never on who has what; so each such case is weighed once for a board, and kept.
     *
     * <p>An outcome is one long: for each PARTY what it still gains (10 bits, as 6 LOTS are worth 594 at
     * most), the PARTY that vetoes and 1 (3 bits), the LOT that is TAKEN and 1 (3 bits), and, where it
     * is kept, the board's version. 0: nothing comes any more.
     */
    private static final class Foresight {

        private static final int GAIN_BITS = 10;
        private static final long GAIN_MASK = (1L << GAIN_BITS) - 1;
        private static final int VETOER_SHIFT = GAIN_BITS * PARTIES_MAX;
        private static final int LOT_SHIFT = VETOER_SHIFT + 3;
        private static final int VERSION_SHIFT = LOT_SHIFT + 3;
        private static final long SMALL_MASK = 7L;
        private static final long GAINS_MASK = (1L << VETOER_SHIFT) - 1;
        private static final long OUTCOME_MASK = (1L << VERSION_SHIFT) - 1;
        static final int VERSIONS_MAX = (1 << 16) - 1;

        /** Each step takes a LOT or uses up a VETO. */
        private static final int DEPTH_MAX = LOTS_MAX + PARTIES_MAX;
        private static final int LOT_SETS = 64;
        private static final int VETO_SETS = 16;
        private static final int CASES = 729 * VETO_SETS;

        /** A set of LOTS as a number to the base 3: a LOT is gone (0), free (1) or BARRED (2). */
        private final int[] ternary = new int[LOT_SETS];
        private final long[] kept = new long[CASES];

        Foresight() {
            for (int set = 1; set < LOT_SETS; set++) {
                ternary[set] = 3 * ternary[set >> 1] + (set & 1);
            }
        }

        int sumInTheEnd(Board board, int p, int vetoes) {
            return board.sumOf(p) + gainOf(outcome(board, board.freeLots(), board.barred, vetoes, 0), p);
        }

        int lotTaken(Board board) {
            return lotOf(outcome(board, board.freeLots(), board.barred, board.vetoesLeft, 0));
        }

        int vetoerIf(Board board, int lot) {
            return vetoerOf(ifTaken(board, lot, board.freeLots(), board.barred, board.vetoesLeft, 0));
        }

        int sumInTheEndIf(Board board, int lot, int p) {
            long outcome = ifTaken(board, lot, board.freeLots(), board.barred, board.vetoesLeft, 0);
            return board.sumOf(p) + gainOf(outcome, p);
        }

        private static int gainOf(long outcome, int p) {
            return (int) ((outcome >> (GAIN_BITS * p)) & GAIN_MASK);
        }

        private static int vetoerOf(long outcome) {
            return (int) ((outcome >> VETOER_SHIFT) & SMALL_MASK) - 1;
        }

        private static int lotOf(long outcome) {
            return (int) ((outcome >> LOT_SHIFT) & SMALL_MASK) - 1;
        }

        /** Below CASES: all six LOTS free and BARRED are 364 and 364 to the base 3. */
        private int caseOf(int free, int barred, int vetoes) {
            int lots = ternary[free & (LOT_SETS - 1)] + ternary[barred & free & (LOT_SETS - 1)];
            return lots * VETO_SETS + (vetoes & (VETO_SETS - 1));
        }

        /** What comes from here on, in a TURN in which all that was TAKEN is BARRED. */
        private long outcome(Board board, int free, int barred, int allVetoes, int depth) {
            int turn = board.lots - Integer.bitCount(free);
            int taker = board.ownerAt(turn);
            if (taker == NONE || depth > DEPTH_MAX) {
                return 0L;
            }
            // Who has no TURN behind this one wins nothing by a VETO any more: many cases become one.
            int vetoes = allVetoes & board.ownersBehind[turn];
            int place = caseOf(free, barred, vetoes);
            if ((kept[place] >> VERSION_SHIFT) == board.version) {
                return kept[place] & OUTCOME_MASK;
            }
            long best = 0L;
            for (int k = 0; k < board.lots; k++) {
                if (bit(free & ~barred, k) == 1) {
                    long next = ifTaken(board, k, free, barred, vetoes, depth);
                    if (best == 0L || gainOf(next, taker) > gainOf(best, taker)) {
                        best = next;
                    }
                }
            }
            kept[place] = ((long) board.version << VERSION_SHIFT) | best;
            return best;
        }

        /** What comes if a LOT is TAKEN. The last one asked knows most, so the asking goes backwards. */
        private long ifTaken(Board board, int lot, int free, int barred, int vetoes, int depth) {
            int taker = board.ownerAt(board.lots - Integer.bitCount(free));
            if (taker == NONE || depth > DEPTH_MAX) {
                return 0L;
            }
            int set = 1 << lot;
            long gains = GAINS_MASK & outcome(board, free & ~set, 0, vetoes, depth + 1);
            gains += (long) board.value(taker, lot) << (GAIN_BITS * taker);
            long vetoer = 0L;
            boolean onlyOne = (free & ~barred & ~set) == 0;
            for (int i = board.parties - 1; i >= 0 && !onlyOne; i--) {
                int p = board.asked[i];
                if (p != taker && bit(vetoes, p) == 1) {
                    long vetoed = GAINS_MASK & outcome(board, free, barred | set, vetoes & ~(1 << p), depth + 1);
                    if (gainOf(vetoed, p) > gainOf(gains, p)) {
                        gains = vetoed;
                        vetoer = p + 1L;
                    }
                }
            }
            return gains | (vetoer << VETOER_SHIFT) | ((lot + 1L) << LOT_SHIFT);
        }

        /** The i-th thing that is done from now on, as course() tells it. */
        int thing(Board board, int i) {
            int free = board.freeLots();
            int barred = board.barred;
            int vetoes = board.vetoesLeft;
            for (int step = 0; step <= DEPTH_MAX; step++) {
                long outcome = outcome(board, free, barred, vetoes, 0);
                int lot = lotOf(outcome);
                int vetoer = vetoerOf(outcome);
                if (lot == NONE) {
                    return NONE;
                }
                if (step == i) {
                    return 10 * lot + vetoer + 1;
                }
                if (vetoer == NONE) {
                    free &= ~(1 << lot);
                    barred = 0;
                } else {
                    barred |= 1 << lot;
                    vetoes &= ~(1 << vetoer);
                }
            }
            return NONE;
        }
    }
}
