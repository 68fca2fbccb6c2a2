import java.math.BigInteger;

/** The document's sentences on STATES and refused calls, and promises 24 to 26, one test for each. */
final class StateBoundsTest {
    private static final String TEXT = "=a;=b;=c;%2;+3:5,4,1!;+2:5,4,1!;+1:7,7,7!;";
    private static final int[] FAR = {Integer.MIN_VALUE, -65536, -1, 65536, Integer.MAX_VALUE};
    private static final int NONE = PostShares.NONE;
    private static final int BAD = PostShares.BAD;
    private static final int NO = PostShares.NO;
    private static final int FULL = PostShares.FULL;
    /** How many calls leave a STATE, see doOne(). */
    private static final int DOINGS = 8;
    /** How many calls leave none, see askOne(). */
    private static final int QUESTIONS = 16;

    public static void main(String[] args) {
        eachCallToldS();
        othersLeaveNone();
        allButTextReasonsRefused();
        takenLastIsOfIt();
        sixAtMost();
        upToTheLastCall();
        foreseenAnew();
        roundTheRing();
        backBounds();
        refusedChangesNothing();
        badComesFirst();
        questionsAreRefusedToo();
        refusedAreNotTakenBack();
        constants();
        toldBounds();
        toldOfEach();
        digestBounds();
        digestWraps();
        Desk.end();
    }

    // ---- STATES

    private static void eachCallToldS() {
        String sentence = "STATES: each call told S leaves one to go back to";
        for (int n = 0; n < DOINGS; n++) {
            Desk d = Document.says(sentence, TEXT);
            d.shares.takes(0);
            d.due("told(9)", d.shares.told(9), 2);
            String before = d.everything();
            doOne(d, n);
            d.due("told(9) behind " + n, d.shares.told(9), 3);
            Desk.check(sentence + ": " + n + " does something", d.everything().equals(before), false);
            d.due("back()", d.shares.back(), 2);
            Desk.check(sentence + ": back from " + n, d.everything(), before);
        }
    }

    private static void doOne(Desk d, int n) {
        switch (n) {
            case 0 -> d.due("reads()", d.shares.reads(), 7);
            case 1 -> d.due("rates(0, 1, 99)", d.shares.rates(0, 1, 99), 4);
            case 2 -> d.due("strength(2, 999)", d.shares.strength(2, 999), 1);
            case 3 -> d.due("rule(4)", d.shares.rule(4), 2);
            case 4 -> d.due("binds(1, 0)", d.shares.binds(1, 0), 2);
            case 5 -> d.due("joins(1, 0)", d.shares.joins(1, 0), 2);
            case 6 -> d.due("takes(2)", d.shares.takes(2), 0);
            default -> d.due("vetoes(1)", d.shares.vetoes(1), 0);
        }
    }

    private static void othersLeaveNone() {
        for (int n = 0; n < QUESTIONS; n++) {
            Desk d = Document.says("each call told S leaves one to go back to", TEXT);
            d.shares.takes(0);
            d.due("asked " + n + ", not refused", askOne(d, n, 0) >= NONE ? 1 : 0, 1);
            d.due("told(9)", d.shares.told(9), 2);
            d.due("back()", d.shares.back(), 1);
            d.due("told(7)", d.shares.told(7), 0);
        }
        Desk d = Document.says("each call told S leaves one to go back to", TEXT);
        for (int n = 0; n < 10; n++) {
            d.shares.rates(0, 0, 0);
            d.shares.rates(0, 0, 5);
            d.due("rates(0, 0, 5), refused", d.shares.rates(0, 0, 5), NO);
            d.due("rates(0, 0, 100), refused", d.shares.rates(0, 0, 100), BAD);
        }
        d.due("told(9)", d.shares.told(9), 6);
        d.due("back()", d.shares.back(), 5);
        d.due("worth(0, 0)", d.shares.worth(0, 0), 0);
    }

    /** A question with arguments that are right (off = 0) or not. */
    private static long askOne(Desk d, int n, int off) {
        return switch (n) {
            case 0 -> d.shares.type('x' + 8 * off);
            case 1 -> d.shares.reason(3 + off);
            case 2 -> d.shares.lot(2 + off, 3);
            case 3 -> d.shares.party(2 + off, 5);
            case 4 -> d.shares.worth(2 + off, 2);
            case 5 -> d.shares.foreseen(2 + off);
            case 6 -> d.shares.against(2 + off);
            case 7 -> d.shares.taking(2, 2 + off);
            case 8 -> d.shares.sincere(2 + off);
            case 9 -> d.shares.without(2 + off, 0);
            case 10 -> d.shares.told(9 + off);
            case 11 -> d.shares.turn(-off);
            case 12 -> d.shares.course(-off);
            case 13 -> d.shares.without(0, 2 + off);
            case 14 -> d.shares.lot(0, 3 + off);
            default -> d.shares.party(0, 5 + off);
        };
    }

    private static void allButTextReasonsRefused() {
        Desk d = Document.says("(all but THE TEXT, REASONS, how often refused;", TEXT);
        d.shares.rule(3);
        d.due("rule(9)", d.shares.rule(9), BAD);
        d.due("rule(3)", d.shares.rule(3), NO);
        d.due("reads(=a;%x)", d.reads("=a;%x"), -14);
        d.due("back()", d.shares.back(), 1);
        d.due("told(6)", d.shares.told(6), 2);
        d.due("told(3): THE TEXT is none of it", d.shares.told(3), 5);
        int[] reasons = {1, 2, 0, 'x'};
        for (int what = 0; what < 4; what++) {
            d.due("reason(" + what + "): REASONS are none of it", d.shares.reason(what), reasons[what]);
        }
        d.dueRefused(1, 1, 0);
        d.due("clear()", d.shares.clear(), 5);
        d.due("back()", d.shares.back(), 0);
        d.due("told(3)", d.shares.told(3), 0);
        d.due("told(4)", d.shares.told(4), 0);
        d.due("type('='): it comes behind THE TEXT as it is", d.shares.type('='), 1);
        d.due("reads()", d.shares.reads(), -11);
    }

    private static void takenLastIsOfIt() {
        String sentence = "what was TAKEN last is of it: behind back() it may be VETOED, if it was the last thing done then)";
        for (int n = 0; n < DOINGS; n++) {
            Desk d = Document.says(sentence, TEXT);
            d.shares.takes(0);
            doOne(d, n);
            d.shares.back();
            d.due("vetoes(1) behind back() from " + n, d.shares.vetoes(1), 0);
        }
        Desk d = Document.says(sentence, TEXT);
        d.shares.takes(0);
        d.shares.vetoes(1);
        d.shares.takes(1);
        d.shares.back();
        d.due("vetoes(2), the last thing was a VETO", d.shares.vetoes(2), NO);
        d.shares.back();
        d.due("vetoes(2), the last thing was TAKEN", d.shares.vetoes(2), 0);
        d.due("lot(0, 3)", d.shares.lot(0, 3), 1);
        d.shares.back();
        d.shares.back();
        d.due("vetoes(2), nothing was TAKEN then", d.shares.vetoes(2), NO);
        d = Document.says(sentence, TEXT);
        d.shares.takes(0);
        d.shares.vetoes(1);
        d.shares.takes(1);
        d.shares.takes(0);
        d.shares.back();
        d.due("vetoes(2): what was BARRED before is of it, too", d.shares.vetoes(2), 1);
        d.due("lot(0, 3)", d.shares.lot(0, 3), 1);
        d.due("lot(1, 3)", d.shares.lot(1, 3), 1);
    }

    private static void sixAtMost() {
        Desk d = Document.says("6 at most, older ones lost.", TEXT);
        for (int v = 10; v < 16; v++) {
            d.due("rates(0, 0, v)", d.shares.rates(0, 0, v), v == 10 ? 5 : v - 1);
            d.due("told(9)", d.shares.told(9), Math.min(6, v - 10 + 2));
        }
        for (int left = 5; left >= 0; left--) {
            d.due("back()", d.shares.back(), left);
            d.due("worth(0, 0)", d.shares.worth(0, 0), left == 0 ? 5 : 9 + left);
        }
        d.due("back(), the oldest one is lost", d.shares.back(), NO);
        d.due("told(4), it was nothing", d.shares.told(4), 3);
        Desk six = Document.says("6 at most, older ones lost.");
        for (int n = 1; n <= 6; n++) {
            six.due("rule", six.shares.rule(n % 2), 1 - n % 2);
            six.due("told(9)", six.shares.told(9), n);
        }
        for (int left = 5; left >= 0; left--) {
            six.due("back(), none is lost", six.shares.back(), left);
        }
    }

    /** What was foreseen before a change is not told behind it, up to the 512th call. */
    private static void upToTheLastCall() {
        Desk d = Document.says("An object is used for at most 512 calls after it has been made", "=a;=b;+9:0,50;+8:60,70;");
        int calls = 23;
        for (int v = 0; calls + 4 <= 512; v++) {
            int worth = 1 + v % 99;
            d.shares.rates(0, 0, worth);
            d.due("foreseen(0) with WORTH " + worth, d.shares.foreseen(0), Math.max(worth, 50));
            d.due("foreseen(1)", d.shares.foreseen(1), worth >= 50 ? 70 : 60);
            d.due("told(9)", d.shares.told(9), Math.min(6, v + 2));
            calls += 4;
        }
        while (calls < 512) {
            d.due("told(4)", d.shares.told(4), 2);
            calls++;
        }
    }

    /** One desk told otherwise again and again foresees the same as new ones that are told so at once. */
    private static void foreseenAnew() {
        Desk d = Document.says("at most 512 calls after it has been made", "=a;=b;=c;=d;=e;=f;+9:9,3,4,0,7,7!;+8:6,0,4,8,4,0!;+8:7,8,4,1,3,1!;");
        int[][] worths = {{9, 3, 4, 0, 7, 7}, {6, 0, 4, 8, 4, 0}, {7, 8, 4, 1, 3, 1}};
        for (int n = 0; n < 24; n++) {
            int p = n % 3;
            int k = n * 5 % 6;
            worths[p][k] = (worths[p][k] + 1 + n % 7) % 10;
            d.shares.rates(p, k, worths[p][k]);
            StringBuilder text = new StringBuilder("=a;=b;=c;=d;=e;=f;");
            String[] strengths = {"9", "8", "8"};
            for (int q = 0; q < 3; q++) {
                text.append('+').append(strengths[q]).append(':');
                for (int j = 0; j < 6; j++) {
                    text.append(j == 0 ? "" : ",").append(worths[q][j]);
                }
                text.append("!;");
            }
            Desk anew = Document.says("at most 512 calls after it has been made", text.toString());
            for (int q = 0; q < 3; q++) {
                d.due("foreseen(" + q + ") of " + text, d.shares.foreseen(q), anew.shares.foreseen(q));
            }
            for (int i = 0; i < 10; i++) {
                d.due("course(" + i + ") of " + text, d.shares.course(i), anew.shares.course(i));
            }
        }
    }

    /** Places of STATES are used again: what was gone back from, and what was lost, comes never back. */
    private static void roundTheRing() {
        for (int first = 0; first <= 13; first++) {
            for (int gone = 0; gone <= 6; gone++) {
                Desk d = Document.says("6 at most, older ones lost.", "=a;+1:0;");
                int[] values = new int[40];
                int top = 1;
                int states = 1;
                for (int n = 0; n < first; n++) {
                    d.shares.rates(0, 0, top);
                    values[top] = top;
                    top++;
                    states = Math.min(6, states + 1);
                }
                for (int n = 0; n < gone && states > 1; n++) {
                    d.due("back()", d.shares.back(), states - 1);
                    states--;
                    top--;
                }
                for (int n = 0; n < 4; n++) {
                    d.shares.rates(0, 0, 50 + n);
                    values[top] = 50 + n;
                    top++;
                    states = Math.min(6, states + 1);
                }
                dueWayBack(d, values, top - 1, states, first + gone);
            }
        }
    }

    private static void dueWayBack(Desk d, int[] values, int top, int states, int run) {
        int at = top;
        for (int left = states - 1; left >= 0 && at > 0; left--) {
            d.due("back() in " + run, d.shares.back(), left);
            at--;
            d.due("worth(0, 0) in " + run, d.shares.worth(0, 0), values[at]);
        }
    }

    private static void backBounds() {
        Desk d = Document.says("A STATE back: how many can be yet. NO: none.");
        d.due("back(), none", d.shares.back(), NO);
        d.due("rule(1)", d.shares.rule(1), 0);
        d.due("rule(2)", d.shares.rule(2), 1);
        d.due("back()", d.shares.back(), 1);
        d.due("told(6)", d.shares.told(6), 1);
        d.due("back()", d.shares.back(), 0);
        d.due("told(6)", d.shares.told(6), 0);
        d.due("back(), none", d.shares.back(), NO);
        d.due("told(6)", d.shares.told(6), 0);
        d.due("told(9)", d.shares.told(9), 0);
        d.dueRefused(0, 2, 0);
        d.due("rule(4)", d.shares.rule(4), 0);
        d.due("back()", d.shares.back(), 0);
    }

    // ---- what is refused

    private static void refusedChangesNothing() {
        Desk d = Document.says("Refused (questions, too), changing nothing but how often, the first of", TEXT);
        d.due("reads(%x)", d.reads("%x"), -11);
        d.shares.takes(1);
        String before = d.everything();
        d.due("type(128)", d.shares.type(128), BAD);
        d.due("reason(4)", d.shares.reason(4), BAD);
        d.due("rates(0, 0, 5)", d.shares.rates(0, 0, 5), NO);
        d.due("rates(0, 0, 100)", d.shares.rates(0, 0, 100), BAD);
        d.due("strength(0, 3)", d.shares.strength(0, 3), NO);
        d.due("strength(0, 0)", d.shares.strength(0, 0), BAD);
        d.due("rule(2)", d.shares.rule(2), NO);
        d.due("rule(5)", d.shares.rule(5), BAD);
        d.due("binds(1, 1)", d.shares.binds(1, 1), NO);
        d.due("binds(1, 3)", d.shares.binds(1, 3), BAD);
        d.due("joins(1, 1)", d.shares.joins(1, 1), NO);
        d.due("joins(1, 3)", d.shares.joins(1, 3), BAD);
        d.due("takes(1)", d.shares.takes(1), NO);
        d.due("takes(3)", d.shares.takes(3), BAD);
        d.due("vetoes(0)", d.shares.vetoes(0), NO);
        d.due("vetoes(3)", d.shares.vetoes(3), BAD);
        d.due("against(1)", d.shares.against(1), NO);
        d.due("taking(1, 0)", d.shares.taking(1, 0), NO);
        Desk.check("refused calls change nothing", d.everything(), before);
        d.dueRefused(9, 9, 0);
        int[] reasons = {0, 2, 0, 'x'};
        for (int what = 0; what < 4; what++) {
            d.due("reason(" + what + ")", d.shares.reason(what), reasons[what]);
        }
        d.due("vetoes(2): what was TAKEN last is so yet", d.shares.vetoes(2), 1);
        d.due("back()", d.shares.back(), 2);
        d.due("back()", d.shares.back(), 1);
        d.due("told(7)", d.shares.told(7), 0);
    }

    private static void badComesFirst() {
        Desk d = Document.says("the first of: BAD -2 a number is not as told, there is no such LOT, PARTY; NO -3 as told; FULL -4 as many "
            + "as may be.", "=a;+1:1!;");
        d.due("takes(0)", d.shares.takes(0), 0);
        d.due("takes(1), no TURN is left", d.shares.takes(1), BAD);
        d.due("vetoes(1), the only one", d.shares.vetoes(1), BAD);
        d.due("against(1), no TURN is left", d.shares.against(1), BAD);
        d.due("taking(1, 0), no TURN is left", d.shares.taking(1, 0), BAD);
        d.due("taking(0, 1), no TURN is left", d.shares.taking(0, 1), BAD);
        d.due("binds(1, 1), like numbers", d.shares.binds(1, 1), BAD);
        d.due("joins(-1, -1), like numbers", d.shares.joins(-1, -1), BAD);
        d.due("rates(0, 1, 1)", d.shares.rates(0, 1, 1), BAD);
        d.dueRefused(8, 0, 0);
        for (int n = 0; n < 151; n++) {
            d.shares.type('0');
        }
        d.due("told(3)", d.shares.told(3), 160);
        d.due("type(128), FULL", d.shares.type(128), BAD);
        d.due("type(-1), FULL", d.shares.type(-1), BAD);
        d.due("type(0), FULL", d.shares.type(0), FULL);
        d.dueRefused(10, 0, 1);
    }

    private static void questionsAreRefusedToo() {
        Desk d = Document.says("Refused (questions, too)", TEXT);
        String before = d.everything();
        for (int n = 0; n < QUESTIONS; n++) {
            d.due("asked " + n + " wrongly", askOne(d, n, 1), BAD);
            d.due("told(0)", d.shares.told(0), n + 1);
        }
        d.due("told(1)", d.shares.told(1), 0);
        Desk.check("refused questions change nothing", d.everything(), before);
        d.shares.takes(0);
        d.due("against(0)", d.shares.against(0), NO);
        d.due("told(1)", d.shares.told(1), 1);
        d.due("taking(0, 0)", d.shares.taking(0, 0), NO);
        d.due("told(1)", d.shares.told(1), 2);
    }

    private static void refusedAreNotTakenBack() {
        Desk d = Document.says("how often refused; what was TAKEN last is of it", TEXT);
        d.due("takes(3)", d.shares.takes(3), BAD);
        d.shares.takes(0);
        d.due("takes(0)", d.shares.takes(0), NO);
        d.due("back()", d.shares.back(), 1);
        d.dueRefused(1, 1, 0);
        d.due("reads()", d.shares.reads(), 7);
        d.dueRefused(1, 1, 0);
    }

    private static void constants() {
        Document.says("public static final int NONE = -1, BAD = -2, NO = -3, FULL = -4;");
        Document.says("NONE -1.");
        Desk.check("NONE -1", NONE, -1);
        Desk.check("BAD -2", BAD, -2);
        Desk.check("NO -3", NO, -3);
        Desk.check("FULL -4", FULL, -4);
    }

    // ---- promises 25 and 26

    private static void toldBounds() {
        Desk d = Document.says("VETOES that are left (8), STATES (9). BAD.", TEXT);
        d.due("told(10)", d.shares.told(10), BAD);
        for (int far : FAR) {
            d.due("told(" + far + ")", d.shares.told(far), BAD);
        }
        d.due("told(0): these count", d.shares.told(0), FAR.length + 1);
        d.due("told(0): this does not", d.shares.told(0), FAR.length + 1);
    }

    private static void toldOfEach() {
        Desk d = Document.says("How often refused: BAD (0), NO (1), FULL (2); bytes of THE TEXT (3), LOTS (4), PARTIES (5), RULE (6), "
            + "TURNS that were had (7), VETOES that are left (8), STATES (9). BAD.", TEXT);
        dueTold(d, 0, 0, 0, 42, 3, 3, 2, 0, 3, 1);
        d.shares.takes(0);
        dueTold(d, 0, 0, 0, 42, 3, 3, 2, 1, 3, 2);
        d.shares.vetoes(1);
        dueTold(d, 0, 0, 0, 42, 3, 3, 2, 0, 2, 3);
        d.shares.vetoes(1);
        dueTold(d, 0, 1, 0, 42, 3, 3, 2, 0, 2, 3);
        d.shares.vetoes(3);
        dueTold(d, 1, 1, 0, 42, 3, 3, 2, 0, 2, 3);
        d.shares.rule(4);
        dueTold(d, 1, 1, 0, 42, 3, 3, 4, 0, 3, 4);
        d.shares.joins(0, 2);
        dueTold(d, 1, 1, 0, 42, 3, 2, 4, 0, 2, 5);
        d.shares.binds(0, 2);
        dueTold(d, 1, 1, 0, 42, 2, 2, 4, 0, 2, 6);
        d.shares.type('=');
        dueTold(d, 1, 1, 0, 43, 2, 2, 4, 0, 2, 6);
        d.shares.clear();
        d.types("%".repeat(162));
        dueTold(d, 1, 1, 2, 160, 2, 2, 4, 0, 2, 6);
    }

    private static void digestBounds() {
        String sentence = "h = 2269; then h = 31 h + v for each v: told(0) to told(9); of LOTS lot() 0 to 3; PARTY by PARTY party() 0 to 5, "
            + "its WORTHS by LOTS, foreseen(), sincere().";
        dueDigest(Document.says(sentence), 0, 0, 0, 0, 0, 0, 0, 0, 0, 0);
        dueDigest(Document.says(sentence, "=l;"), 0, 0, 0, 3, 1, 0, 0, 0, 0, 1, 2048, -1, -1, 0);
        dueDigest(Document.says(sentence, "+7:!;"), 0, 0, 0, 5, 0, 1, 0, 0, 1, 1, 7, 1, 0, 0, 0, 0, 0, 0);
        Desk d = Document.says(sentence, "=a;=b;+3:5,4;+2:5,4!;");
        int[] asTold = {
            0, 0, 0, 21, 2, 2, 0, 0, 1, 1,
            1, -1, -1, 0, 2, -1, -1, 0,
            3, 0, 0, 1, 0, 9, 5, 4, 4, 5,
            2, 1, 0, 1, 0, 9, 5, 4, 5, 4,
        };
        dueDigest(d, asTold);
        d.shares.takes(0);
        d.shares.vetoes(1);
        d.shares.takes(9);
        d.shares.takes(0);
        int[] barred = {
            1, 1, 0, 21, 2, 2, 0, 0, 0, 3,
            1, -1, -1, 1, 2, -1, -1, 0,
            3, 0, 0, 1, 0, 9, 5, 4, 4, 4,
            2, 0, 0, 1, 0, 9, 5, 4, 5, 5,
        };
        dueDigest(d, barred);
        d.shares.takes(1);
        int[] taken = {
            1, 1, 0, 21, 2, 2, 0, 1, 0, 4,
            1, -1, -1, 0, 2, 0, 0, 0,
            3, 0, 4, 1, 1, 9, 5, 4, 4, 4,
            2, 0, 0, 1, 0, 9, 5, 4, 5, 5,
        };
        dueDigest(d, taken);
    }

    /** The greatest board: h goes round the long many times, just as Java's own arithmetic does. */
    private static void digestWraps() {
        Desk d = Document.says("h = 31 h + v for each v", "=a;=b;=c;=d;=e;=fghijkl;+999:99,99,99,99,99,99!;+998:1,2,3,4,5,6!;"
            + "+997:6,5,4,3,2,1!;+996:0,0,0,0,0,0!;%4;");
        BigInteger h = BigInteger.valueOf(2269);
        for (int what = 0; what < 10; what++) {
            h = next(h, d.shares.told(what));
        }
        for (int k = 0; k < 6; k++) {
            for (int what = 0; what < 4; what++) {
                h = next(h, d.shares.lot(k, what));
            }
        }
        for (int p = 0; p < 4; p++) {
            for (int what = 0; what < 6; what++) {
                h = next(h, d.shares.party(p, what));
            }
            for (int k = 0; k < 6; k++) {
                h = next(h, d.shares.worth(p, k));
            }
            h = next(next(h, d.shares.foreseen(p)), d.shares.sincere(p));
        }
        Desk.check("it goes round", h.bitLength() > 64, true);
        d.due("digest()", d.shares.digest(), h.longValue());
        d.due("digest() again", d.shares.digest(), h.longValue());
    }

    private static BigInteger next(BigInteger h, int v) {
        return h.multiply(BigInteger.valueOf(31)).add(BigInteger.valueOf(v));
    }

    // ---- helpers

    private static void dueTold(Desk d, int... due) {
        for (int what = 0; what < due.length; what++) {
            d.due("told(" + what + ")", d.shares.told(what), due[what]);
        }
    }

    private static void dueDigest(Desk d, int... values) {
        long h = 2269;
        for (int v : values) {
            h = 31 * h + v;
        }
        d.due("digest()", d.shares.digest(), h);
        d.due("digest() again: it changes nothing", d.shares.digest(), h);
    }
}
