import java.util.ArrayDeque;
import java.util.ArrayList;
import java.util.Arrays;
import java.util.Deque;
import java.util.HashMap;
import java.util.List;
import java.util.Map;

/**
 * The document once more, built otherwise than PostShares: lists in place of bits, copies in place of
 * rows, a text automaton in place of reading methods, and a tree of single decisions (take, then each
 * one that is asked) that plays on to the true SUMS in the end.
 */
final class Model {
    static final int NONE = -1, BAD = -2, NO = -3, FULL = -4;

    private static final class State {
        List<Integer> posts = new ArrayList<>();
        List<Integer> strengths = new ArrayList<>();
        List<List<Integer>> worths = new ArrayList<>();
        List<Boolean> vetoTold = new ArrayList<>();
        int rule;
        // what is done: {lot, taker, veto or NONE} since things were told
        List<int[]> done = new ArrayList<>();

        State copy() {
            State s = new State();
            s.posts.addAll(posts);
            s.strengths.addAll(strengths);
            for (List<Integer> row : worths) {
                s.worths.add(new ArrayList<>(row));
            }
            s.vetoTold.addAll(vetoTold);
            s.rule = rule;
            for (int[] thing : done) {
                s.done.add(thing.clone());
            }
            return s;
        }
    }

    /** Where a game stands; it is found from State.done by doing all of it again. */
    private static final class Game {
        int[] holder;
        int[] at;
        boolean[] barred;
        boolean[] veto;
        int turn;

        Game copy() {
            Game g = new Game();
            g.holder = holder.clone();
            g.at = at.clone();
            g.barred = barred.clone();
            g.veto = veto.clone();
            g.turn = turn;
            return g;
        }

        String key() {
            return Arrays.toString(holder) + Arrays.toString(barred) + Arrays.toString(veto) + turn;
        }
    }

    private State now = new State();
    private final Deque<State> past = new ArrayDeque<>();
    private final StringBuilder text = new StringBuilder();
    private final int[] reasons = {NONE, NONE, NONE, NONE};
    private final int[] refused = new int[3];
    private Map<String, int[]> ends = new HashMap<>();

    private int refuse(int code) {
        refused[-2 - code]++;
        return code;
    }

    private int lots() {
        return now.posts.size();
    }

    private int parties() {
        return now.strengths.size();
    }

    private boolean isLot(int k) {
        return k >= 0 && k < lots();
    }

    private boolean isParty(int p) {
        return p >= 0 && p < parties();
    }

    private void remember() {
        past.addLast(now.copy());
        if (past.size() > 6) {
            past.removeFirst();
        }
    }

    private void changed() {
        now.done.clear();
        ends = new HashMap<>();
    }

    // ---- texts

    int type(int c) {
        if (c < 0 || c > 127) {
            return refuse(BAD);
        }
        if (text.length() == 160) {
            return refuse(FULL);
        }
        text.append((char) c);
        return text.length();
    }

    int clear() {
        int n = text.length();
        text.setLength(0);
        return n;
    }

    int reads() {
        State s = new State();
        int items = 0;
        String mode = "sign";
        int count = 0; // posts or figures so far
        int value = 0;
        for (int i = 0; i <= text.length(); i++) {
            int c = i < text.length() ? text.charAt(i) : NONE;
            boolean figure = c >= '0' && c <= '9';
            int part = NONE;
            int which = 0;
            List<Integer> row = s.worths.isEmpty() ? null : s.worths.get(s.worths.size() - 1);
            switch (mode) {
                case "sign":
                    if (c == NONE) {
                        break;
                    }
                    if (c == '=' && s.strengths.isEmpty() && s.posts.size() < 6) {
                        mode = "posts";
                        s.posts.add(0);
                        count = 0;
                    } else if (c == '%') {
                        mode = "rule";
                        count = 0;
                    } else if (c == '+' && s.strengths.size() < 4) {
                        mode = "strength";
                        count = 0;
                        value = 0;
                    } else {
                        part = 0;
                    }
                    break;
                case "posts":
                    if (c >= 'a' && c <= 'l') {
                        int bit = 1 << (c - 'a');
                        boolean had = false;
                        for (int posts : s.posts) {
                            had |= (posts & bit) != 0;
                        }
                        if (had) {
                            part = 1;
                            which = count;
                        } else {
                            s.posts.add(s.posts.remove(s.posts.size() - 1) + bit);
                            count++;
                        }
                    } else if (count == 0) {
                        part = 1;
                    } else if (c == ';') {
                        mode = "sign";
                        items++;
                    } else {
                        part = 5;
                    }
                    break;
                case "rule":
                    if (c >= '0' && c <= '4' && count < 3 && (count == 0 || s.rule == 0)) {
                        s.rule = c - '0';
                        count++;
                    } else if (count == 0) {
                        part = 2;
                    } else if (c == ';') {
                        mode = "sign";
                        items++;
                    } else {
                        part = 5;
                    }
                    break;
                case "strength":
                    if (figure && count < 3 && (count > 0 || c != '0')) {
                        value = 10 * value + c - '0';
                        count++;
                    } else if (c == ':' && count > 0) {
                        s.strengths.add(value);
                        s.worths.add(new ArrayList<>());
                        s.vetoTold.add(false);
                        count = 0;
                        value = 0;
                        mode = s.posts.isEmpty() ? "end" : "worth";
                    } else {
                        part = 3;
                    }
                    break;
                case "worth":
                    if (figure && count < 2) {
                        value = 10 * value + c - '0';
                        count++;
                    } else if (count == 0) {
                        part = 4;
                        which = row.size();
                    } else if (row.size() + 1 < s.posts.size()) {
                        if (c == ',') {
                            row.add(value);
                            count = 0;
                            value = 0;
                        } else {
                            part = 4;
                            which = row.size() + 1;
                        }
                    } else if (c == ';' || c == '!') {
                        row.add(value);
                        if (c == '!') {
                            s.vetoTold.set(s.vetoTold.size() - 1, true);
                            mode = "last";
                        } else {
                            mode = "sign";
                            items++;
                        }
                    } else {
                        part = 5;
                    }
                    break;
                default: // "end", behind a party without lots, or "last", where only ; can stand
                    if (c == '!' && mode.equals("end")) {
                        s.vetoTold.set(s.vetoTold.size() - 1, true);
                        mode = "last";
                    } else if (c == ';') {
                        mode = "sign";
                        items++;
                    } else {
                        part = 5;
                    }
                    break;
            }
            if (part != NONE) {
                reasons[0] = items;
                reasons[1] = part;
                reasons[2] = which;
                reasons[3] = c;
                return -10 - i;
            }
        }
        remember();
        now = s;
        changed();
        return items;
    }

    int reason(int what) {
        return what < 0 || what > 3 ? refuse(BAD) : reasons[what];
    }

    // ---- what there is

    private Game game() {
        Game g = new Game();
        g.holder = new int[lots()];
        g.at = new int[lots()];
        Arrays.fill(g.holder, NONE);
        Arrays.fill(g.at, NONE);
        g.barred = new boolean[lots()];
        g.veto = new boolean[parties()];
        for (int p = 0; p < parties(); p++) {
            g.veto[p] = now.vetoTold.get(p);
        }
        for (int[] thing : now.done) {
            if (thing[2] != NONE) {
                g.veto[thing[2]] = false;
                g.barred[thing[0]] = true;
            } else {
                g.holder[thing[0]] = thing[1];
                g.at[thing[0]] = g.turn;
                g.turn++;
                g.barred = new boolean[lots()];
            }
        }
        return g;
    }

    private List<Integer> turns() {
        List<Integer> order = new ArrayList<>();
        int[] had = new int[parties()];
        for (int t = 0; t < lots() && parties() > 0; t++) {
            int best = 0;
            for (int p = 1; p < parties(); p++) {
                long[] mine = quotient(now.strengths.get(p), had[p]);
                long[] its = quotient(now.strengths.get(best), had[best]);
                long difference = mine[0] * its[1] - its[0] * mine[1];
                if (difference > 0 || (difference == 0 && now.strengths.get(p) > now.strengths.get(best))) {
                    best = p;
                }
            }
            order.add(best);
            had[best]++;
        }
        return order;
    }

    private long[] quotient(long s, int t) {
        switch (now.rule) {
            case 0:
                return new long[] {s, t + 1};
            case 1:
                return new long[] {s, 2 * t + 1};
            case 2:
                return new long[] {s, t + 2};
            case 3:
                return new long[] {s, 3 * t + 1};
            default:
                return new long[] {5 * s, t == 0 ? 7 : 10 * t + 5};
        }
    }

    private int sum(Game g, int p) {
        int sum = 0;
        for (int k = 0; k < lots(); k++) {
            if (g.holder[k] == p) {
                sum += now.worths.get(p).get(k);
            }
        }
        return sum;
    }

    int lot(int k, int what) {
        if (!isLot(k) || what < 0 || what > 3) {
            return refuse(BAD);
        }
        Game g = game();
        return new int[] {now.posts.get(k), g.holder[k], g.at[k], g.barred[k] ? 1 : 0}[what];
    }

    int party(int p, int what) {
        if (!isParty(p) || what < 0 || what > 5) {
            return refuse(BAD);
        }
        Game g = game();
        List<Integer> order = turns();
        int all = 0;
        int had = 0;
        for (int t = 0; t < order.size(); t++) {
            if (order.get(t) == p) {
                all++;
                had += t < g.turn ? 1 : 0;
            }
        }
        int worths = 0;
        for (int w : now.worths.get(p)) {
            worths += w;
        }
        return new int[] {now.strengths.get(p), g.veto[p] ? 1 : 0, sum(g, p), all, had, worths}[what];
    }

    int worth(int p, int k) {
        return !isParty(p) || !isLot(k) ? refuse(BAD) : now.worths.get(p).get(k);
    }

    int turn(int t) {
        if (t < 0) {
            return refuse(BAD);
        }
        List<Integer> order = turns();
        return t < order.size() ? order.get(t) : NONE;
    }

    // ---- what is changed

    int rates(int p, int k, int v) {
        if (!isParty(p) || !isLot(k) || v < 0 || v > 99) {
            return refuse(BAD);
        }
        int was = now.worths.get(p).get(k);
        if (was == v) {
            return refuse(NO);
        }
        remember();
        now.worths.get(p).set(k, v);
        changed();
        return was;
    }

    int strength(int p, int v) {
        if (!isParty(p) || v < 1 || v > 999) {
            return refuse(BAD);
        }
        int was = now.strengths.get(p);
        if (was == v) {
            return refuse(NO);
        }
        remember();
        now.strengths.set(p, v);
        changed();
        return was;
    }

    int rule(int n) {
        if (n < 0 || n > 4) {
            return refuse(BAD);
        }
        int was = now.rule;
        if (was == n) {
            return refuse(NO);
        }
        remember();
        now.rule = n;
        changed();
        return was;
    }

    int binds(int j, int k) {
        if (!isLot(j) || !isLot(k)) {
            return refuse(BAD);
        }
        if (j == k) {
            return refuse(NO);
        }
        remember();
        now.posts.set(j, now.posts.get(j) + now.posts.get(k));
        now.posts.remove(k);
        for (List<Integer> row : now.worths) {
            row.set(j, Math.min(99, row.get(j) + row.get(k)));
            row.remove(k);
        }
        changed();
        return lots();
    }

    int joins(int p, int q) {
        if (!isParty(p) || !isParty(q)) {
            return refuse(BAD);
        }
        if (p == q) {
            return refuse(NO);
        }
        remember();
        now.strengths.set(p, Math.min(999, now.strengths.get(p) + now.strengths.get(q)));
        for (int k = 0; k < lots(); k++) {
            now.worths.get(p).set(k, Math.max(now.worths.get(p).get(k), now.worths.get(q).get(k)));
        }
        now.vetoTold.set(p, now.vetoTold.get(p) || now.vetoTold.get(q));
        now.strengths.remove(q);
        now.worths.remove(q);
        now.vetoTold.remove(q);
        changed();
        return parties();
    }

    // ---- what is done

    private boolean takeable(Game g, int k) {
        return g.turn < turns().size() && g.holder[k] == NONE && !g.barred[k];
    }

    int takes(int k) {
        if (!isLot(k)) {
            return refuse(BAD);
        }
        Game g = game();
        if (!takeable(g, k)) {
            return refuse(NO);
        }
        remember();
        int taker = turns().get(g.turn);
        now.done.add(new int[] {k, taker, NONE});
        return taker;
    }

    int vetoes(int p) {
        if (!isParty(p)) {
            return refuse(BAD);
        }
        int[] last = now.done.isEmpty() ? null : now.done.get(now.done.size() - 1);
        if (!game().veto[p] || last == null || last[2] != NONE || last[1] == p) {
            return refuse(NO);
        }
        State undone = now.copy();
        State truly = now;
        undone.done.remove(undone.done.size() - 1);
        now = undone;
        Game before = game();
        int open = 0;
        for (int k = 0; k < lots(); k++) {
            open += takeable(before, k) ? 1 : 0;
        }
        now = truly;
        if (open == 1) {
            return refuse(NO);
        }
        remember();
        last = now.done.get(now.done.size() - 1);
        last[2] = p;
        return last[0];
    }

    // ---- what would come

    /** {SUMS in the end .., LOT, PARTY that vetoes it} from a TURN on. */
    private int[] end(Game g) {
        List<Integer> order = turns();
        int[] best = new int[parties() + 2];
        best[parties()] = NONE;
        best[parties() + 1] = NONE;
        if (g.turn >= order.size()) {
            for (int p = 0; p < parties(); p++) {
                best[p] = sum(g, p);
            }
            return best;
        }
        String key = g.key();
        if (ends.containsKey(key)) {
            return ends.get(key);
        }
        int taker = order.get(g.turn);
        for (int k = 0; k < lots(); k++) {
            if (takeable(g, k)) {
                int[] result = endIf(g, k);
                if (best[parties()] == NONE || result[taker] > best[taker]) {
                    best = result;
                }
            }
        }
        ends.put(key, best);
        return best;
    }

    private int[] endIf(Game g, int k) {
        int open = 0;
        for (int j = 0; j < lots(); j++) {
            open += takeable(g, j) ? 1 : 0;
        }
        List<Integer> ask = new ArrayList<>();
        int taker = turns().get(g.turn);
        for (int p = 0; p < parties() && open > 1; p++) {
            if (p != taker && g.veto[p]) {
                ask.add(p);
            }
        }
        ask.sort((a, b) -> now.strengths.get(b) - now.strengths.get(a));
        return asked(g, k, taker, ask);
    }

    private int[] asked(Game g, int k, int taker, List<Integer> ask) {
        if (ask.isEmpty()) {
            Game next = g.copy();
            next.holder[k] = taker;
            next.turn++;
            next.barred = new boolean[lots()];
            int[] result = end(next).clone();
            result[parties()] = k;
            result[parties() + 1] = NONE;
            return result;
        }
        int p = ask.get(0);
        int[] not = asked(g, k, taker, ask.subList(1, ask.size()));
        Game next = g.copy();
        next.veto[p] = false;
        next.barred[k] = true;
        int[] vetoed = end(next).clone();
        if (vetoed[p] > not[p]) {
            vetoed[parties()] = k;
            vetoed[parties() + 1] = p;
            return vetoed;
        }
        return not;
    }

    int foreseen(int p) {
        return !isParty(p) ? refuse(BAD) : end(game())[p];
    }

    int best() {
        return end(game())[parties()];
    }

    int against(int k) {
        if (!isLot(k)) {
            return refuse(BAD);
        }
        Game g = game();
        return !takeable(g, k) ? refuse(NO) : endIf(g, k)[parties() + 1];
    }

    int taking(int k, int p) {
        if (!isLot(k) || !isParty(p)) {
            return refuse(BAD);
        }
        Game g = game();
        return !takeable(g, k) ? refuse(NO) : endIf(g, k)[p];
    }

    int course(int i) {
        if (i < 0) {
            return refuse(BAD);
        }
        Game g = game();
        for (int n = 0; g.turn < turns().size(); n++) {
            int[] thing = end(g);
            int k = thing[parties()];
            int vetoer = thing[parties() + 1];
            if (n == i) {
                return 10 * k + (vetoer == NONE ? 0 : vetoer + 1);
            }
            if (vetoer == NONE) {
                g.holder[k] = turns().get(g.turn);
                g.turn++;
                g.barred = new boolean[lots()];
            } else {
                g.veto[vetoer] = false;
                g.barred[k] = true;
            }
        }
        return NONE;
    }

    int sincere(int p) {
        if (!isParty(p)) {
            return refuse(BAD);
        }
        Game g = game();
        while (g.turn < turns().size()) {
            int taker = turns().get(g.turn);
            int best = NONE;
            for (int k = 0; k < lots(); k++) {
                if (takeable(g, k) && (best == NONE || now.worths.get(taker).get(k) > now.worths.get(taker).get(best))) {
                    best = k;
                }
            }
            g.holder[best] = taker;
            g.turn++;
            g.barred = new boolean[lots()];
        }
        return sum(g, p);
    }

    int without(int p, int what) {
        if (!isParty(p) || what < 0 || what > 2) {
            return refuse(BAD);
        }
        Game g = game();
        if (what == 0) {
            g.veto[p] = false;
        } else {
            Arrays.fill(g.veto, what == 2);
        }
        return end(g)[p];
    }

    // ---- what is told

    int back() {
        if (past.isEmpty()) {
            return refuse(NO);
        }
        now = past.removeLast();
        ends = new HashMap<>();
        return past.size();
    }

    int told(int what) {
        if (what < 0 || what > 9) {
            return refuse(BAD);
        }
        Game g = game();
        int vetoes = 0;
        for (boolean v : g.veto) {
            vetoes += v ? 1 : 0;
        }
        return new int[] {refused[0], refused[1], refused[2], text.length(), lots(), parties(), now.rule,
            g.turn, vetoes, past.size()}[what];
    }

    long digest() {
        List<Integer> all = new ArrayList<>();
        for (int what = 0; what < 10; what++) {
            all.add(told(what));
        }
        for (int k = 0; k < lots(); k++) {
            for (int what = 0; what < 4; what++) {
                all.add(lot(k, what));
            }
        }
        for (int p = 0; p < parties(); p++) {
            for (int what = 0; what < 6; what++) {
                all.add(party(p, what));
            }
            all.addAll(now.worths.get(p));
            all.add(foreseen(p));
            all.add(sincere(p));
        }
        long h = 2269;
        for (int v : all) {
            h = 31 * h + v;
        }
        return h;
    }
}
