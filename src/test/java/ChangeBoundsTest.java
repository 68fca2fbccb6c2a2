/** The document's sentences on what is changed, promises 10 to 14, one test for each. */
final class ChangeBoundsTest {
    private static final String THREE = "=a;=bc;=l;%1;+30:7,50,1!;+20:4,60,9;+10:5,5,5!;";
    private static final int[] FAR = {Integer.MIN_VALUE, -65536, -1, 65536, Integer.MAX_VALUE};
    private static final int NONE = PostShares.NONE;
    private static final int BAD = PostShares.BAD;
    private static final int NO = PostShares.NO;

    public static void main(String[] args) {
        nothingIsTakenBehind();
        vetoesAreAsTold();
        ratesBounds();
        ratesRefused();
        strengthBounds();
        strengthRefused();
        ruleBounds();
        bindsEachPair();
        bindsCapped();
        bindsToTheLast();
        bindsRefused();
        joinsEachPair();
        joinsCapped();
        joinsVetoes();
        joinsToTheLast();
        joinsRefused();
        Desk.end();
    }

    // ---- ahead of all five

    private static void nothingIsTakenBehind() {
        for (int change = 0; change < 5; change++) {
            Desk d = Document.says("(nothing is TAKEN behind these, VETOES are as told)", THREE);
            d.due("takes(0)", d.shares.takes(0), 0);
            d.due("takes(2)", d.shares.takes(2), 1);
            d.due("takes(1)", d.shares.takes(1), 0);
            change(d, change);
            d.due("told(7)", d.shares.told(7), 0);
            for (int k = 0; k < d.shares.told(4); k++) {
                d.due("lot(k, 1)", d.shares.lot(k, 1), NONE);
                d.due("lot(k, 2)", d.shares.lot(k, 2), NONE);
                d.due("lot(k, 3)", d.shares.lot(k, 3), 0);
            }
            for (int p = 0; p < d.shares.told(5); p++) {
                d.due("party(p, 2)", d.shares.party(p, 2), 0);
                d.due("party(p, 4)", d.shares.party(p, 4), 0);
            }
            d.due("vetoes(0), nothing was TAKEN last", d.shares.vetoes(0), NO);
            d.due("vetoes(1), nothing was TAKEN last", d.shares.vetoes(1), NO);
            d.due("told(9)", d.shares.told(9), 5);
        }
    }

    private static void vetoesAreAsTold() {
        for (int change = 0; change < 5; change++) {
            Desk d = Document.says("VETOES are as told", THREE);
            d.shares.takes(0);
            d.due("vetoes(2)", d.shares.vetoes(2), 0);
            d.due("party(2, 1)", d.shares.party(2, 1), 0);
            d.due("lot(0, 3)", d.shares.lot(0, 3), 1);
            change(d, change);
            d.due("party(0, 1)", d.shares.party(0, 1), 1);
            d.due("party(1, 1)", d.shares.party(1, 1), 0);
            d.due("told(8)", d.shares.told(8), change == 4 ? 1 : 2);
            d.due("lot(0, 3)", d.shares.lot(0, 3), 0);
            d.due("back()", d.shares.back(), 3);
            d.due("told(8)", d.shares.told(8), 1);
            d.due("lot(0, 3)", d.shares.lot(0, 3), 1);
        }
    }

    private static void change(Desk d, int change) {
        switch (change) {
            case 0 -> d.due("rates", d.shares.rates(0, 0, 8), 7);
            case 1 -> d.due("strength", d.shares.strength(0, 31), 30);
            case 2 -> d.due("rule", d.shares.rule(2), 1);
            case 3 -> d.due("binds", d.shares.binds(0, 1), 2);
            default -> d.due("joins", d.shares.joins(0, 2), 2);
        }
    }

    // ---- promises 10 to 12

    private static void ratesBounds() {
        String sentence = "WORTH of a LOT to a PARTY is v: what it was. S. BAD (v, too); NO: it is that.";
        Desk d = Document.says(sentence, "=a;=b;=c;=d;=e;=f;+4:1,2,3,4,5,6;+3:1,2,3,4,5,6;+2:1,2,3,4,5,6;+1:1,2,3,4,5,6;");
        for (int p = 0; p < 4; p++) {
            for (int k = 0; k < 6; k++) {
                d.due("rates(" + p + ", " + k + ", v)", d.shares.rates(p, k, 20 * p + k + 10), k + 1);
            }
        }
        for (int p = 0; p < 4; p++) {
            for (int k = 0; k < 6; k++) {
                d.due("worth(" + p + ", " + k + ")", d.shares.worth(p, k), 20 * p + k + 10);
            }
        }
        d.due("rates(3, 5, 0), the least", d.shares.rates(3, 5, 0), 75);
        d.due("rates(3, 5, 0), it is that", d.shares.rates(3, 5, 0), NO);
        d.due("rates(3, 5, 99), the greatest", d.shares.rates(3, 5, 99), 0);
        d.due("rates(3, 5, 99), it is that", d.shares.rates(3, 5, 99), NO);
        d.due("worth(3, 5)", d.shares.worth(3, 5), 99);
        d.due("told(9)", d.shares.told(9), 6);
        d.dueRefused(0, 2, 0);
    }

    private static void ratesRefused() {
        Desk d = Document.says("BAD (v, too); NO: it is that.", THREE);
        for (int far : FAR) {
            d.due("rates(" + far + ", 0, 7)", d.shares.rates(far, 0, 7), BAD);
            d.due("rates(0, " + far + ", 7)", d.shares.rates(0, far, 7), BAD);
            d.due("rates(0, 0, " + far + ")", d.shares.rates(0, 0, far), BAD);
        }
        d.due("rates(3, 0, 7)", d.shares.rates(3, 0, 7), BAD);
        d.due("rates(0, 3, 7)", d.shares.rates(0, 3, 7), BAD);
        d.due("rates(0, 0, 100)", d.shares.rates(0, 0, 100), BAD);
        d.due("rates(0, 0, 7)", d.shares.rates(0, 0, 7), NO);
        d.dueRefused(3 * FAR.length + 3, 1, 0);
        d.due("told(9)", d.shares.told(9), 1);
        Desk nothing = Document.says("there is no such LOT, PARTY");
        nothing.due("rates(0, 0, 7)", nothing.shares.rates(0, 0, 7), BAD);
        nothing.due("strength(0, 7)", nothing.shares.strength(0, 7), BAD);
        nothing.due("binds(0, 0)", nothing.shares.binds(0, 0), BAD);
        nothing.due("joins(0, 0)", nothing.shares.joins(0, 0), BAD);
        nothing.dueRefused(4, 0, 0);
    }

    private static void strengthBounds() {
        Desk d = Document.says("STRENGTH of a PARTY is v: what it was. S. BAD (v, too); NO: it is that.", THREE);
        d.due("strength(1, 1), the least", d.shares.strength(1, 1), 20);
        d.due("party(1, 0)", d.shares.party(1, 0), 1);
        d.due("party(1, 3): TURNS follow", d.shares.party(1, 3), 0);
        d.due("strength(1, 1), it is that", d.shares.strength(1, 1), NO);
        d.due("strength(1, 999), the greatest", d.shares.strength(1, 999), 1);
        d.due("party(1, 0)", d.shares.party(1, 0), 999);
        d.due("party(1, 3): TURNS follow", d.shares.party(1, 3), 3);
        d.due("strength(1, 999), it is that", d.shares.strength(1, 999), NO);
        d.due("strength(2, 7), the last PARTY", d.shares.strength(2, 7), 10);
        d.due("party(0, 0)", d.shares.party(0, 0), 30);
        d.due("party(2, 0)", d.shares.party(2, 0), 7);
        d.due("told(9)", d.shares.told(9), 4);
        d.dueRefused(0, 2, 0);
    }

    private static void strengthRefused() {
        Desk d = Document.says("STRENGTH of a PARTY is v: what it was. S. BAD (v, too)", THREE);
        for (int far : FAR) {
            d.due("strength(" + far + ", 30)", d.shares.strength(far, 30), BAD);
            d.due("strength(0, " + far + ")", d.shares.strength(0, far), BAD);
        }
        d.due("strength(3, 30)", d.shares.strength(3, 30), BAD);
        d.due("strength(0, 0)", d.shares.strength(0, 0), BAD);
        d.due("strength(0, 1000)", d.shares.strength(0, 1000), BAD);
        d.due("strength(0, 30)", d.shares.strength(0, 30), NO);
        d.dueRefused(2 * FAR.length + 3, 1, 0);
        d.due("told(9)", d.shares.told(9), 1);
        d.due("party(0, 0)", d.shares.party(0, 0), 30);
    }

    private static void ruleBounds() {
        Desk d = Document.says("RULE: what it was. S. BAD; NO: it is that.", THREE);
        for (int was = 0; was <= 4; was++) {
            for (int n = 0; n <= 4; n++) {
                if (d.shares.told(6) != was) {
                    d.shares.rule(was);
                }
                d.due("rule(" + n + ") of " + was, d.shares.rule(n), n == was ? NO : was);
                d.due("told(6)", d.shares.told(6), n);
            }
        }
        d.dueRefused(0, 5, 0);
        for (int far : FAR) {
            d.due("rule(" + far + ")", d.shares.rule(far), BAD);
        }
        d.due("rule(5)", d.shares.rule(5), BAD);
        d.dueRefused(FAR.length + 1, 5, 0);
        d.due("told(6)", d.shares.told(6), 4);
        d.due("told(9)", d.shares.told(9), 6);
    }

    // ---- promise 13

    /** LOT k has POST k, and WORTH 2 to the power of k to PARTY 0, so that it can be told which are bound. */
    private static void bindsEachPair() {
        String sentence = "LOT k comes to LOT j: j has the POSTS of both, WORTHS are those of both together (99 at most), "
            + "k is no more (those behind it are one number lower): how many LOTS there are. S. BAD; NO: k is j.";
        for (int j = 0; j < 6; j++) {
            for (int k = 0; k < 6; k++) {
                Desk d = Document.says(sentence, "=a;=b;=c;=d;=e;=f;+2:1,2,4,8,16,32;+1:6,5,4,3,2,1;");
                d.due("binds(" + j + ", " + k + ")", d.shares.binds(j, k), j == k ? NO : 5);
                if (j != k) {
                    dueBound(d, j, k);
                }
            }
        }
    }

    private static void dueBound(Desk d, int j, int k) {
        int number = 0;
        for (int old = 0; old < 6; old++) {
            if (old != k) {
                int posts = (1 << old) | (old == j ? 1 << k : 0);
                d.due("lot(" + number + ", 0)", d.shares.lot(number, 0), posts);
                d.due("worth(0, " + number + ")", d.shares.worth(0, number), posts);
                d.due("worth(1, " + number + ")", d.shares.worth(1, number), 6 - old + (old == j ? 6 - k : 0));
                number++;
            }
        }
        d.due("lot(5, 0)", d.shares.lot(5, 0), BAD);
        d.due("worth(0, 5)", d.shares.worth(0, 5), BAD);
        d.due("turn(4)", d.shares.turn(4) == NONE ? 1 : 0, 0);
        d.due("turn(5)", d.shares.turn(5), NONE);
        d.due("told(9)", d.shares.told(9), 2);
        d.due("back()", d.shares.back(), 1);
        for (int old = 0; old < 6; old++) {
            d.due("lot(" + old + ", 0)", d.shares.lot(old, 0), 1 << old);
            d.due("worth(0, " + old + ")", d.shares.worth(0, old), 1 << old);
        }
    }

    private static void bindsCapped() {
        Desk d = Document.says("WORTHS are those of both together (99 at most)", "=a;=b;+1:49,50;+1:50,50;+1:99,99;+1:0,0;");
        d.due("binds(1, 0)", d.shares.binds(1, 0), 1);
        d.due("worth(0, 0), 99 together", d.shares.worth(0, 0), 99);
        d.due("worth(1, 0), 100 together", d.shares.worth(1, 0), 99);
        d.due("worth(2, 0), 198 together", d.shares.worth(2, 0), 99);
        d.due("worth(3, 0), 0 together", d.shares.worth(3, 0), 0);
    }

    private static void bindsToTheLast() {
        Desk d = Document.says("how many LOTS there are. S. BAD; NO: k is j.", "=a;=b;=c;=d;=e;=f;+9:1,2,3,4,5,6;");
        for (int left = 5; left >= 1; left--) {
            d.due("binds(0, 1)", d.shares.binds(0, 1), left);
            d.due("told(4)", d.shares.told(4), left);
        }
        d.due("lot(0, 0)", d.shares.lot(0, 0), 63);
        d.due("worth(0, 0)", d.shares.worth(0, 0), 21);
        d.due("binds(0, 1)", d.shares.binds(0, 1), BAD);
        d.due("binds(0, 0)", d.shares.binds(0, 0), NO);
        d.due("takes(0)", d.shares.takes(0), 0);
        d.due("foreseen(0)", d.shares.foreseen(0), 21);
        Desk alone = Document.says("how many LOTS there are", "=a;=b;");
        alone.due("binds(1, 0), without PARTIES", alone.shares.binds(1, 0), 1);
        alone.due("lot(0, 0)", alone.shares.lot(0, 0), 3);
    }

    private static void bindsRefused() {
        Desk d = Document.says("how many LOTS there are. S. BAD; NO: k is j.", THREE);
        for (int far : FAR) {
            d.due("binds(" + far + ", 0)", d.shares.binds(far, 0), BAD);
            d.due("binds(0, " + far + ")", d.shares.binds(0, far), BAD);
            d.due("binds(" + far + ", " + far + "), BAD comes first", d.shares.binds(far, far), BAD);
        }
        d.due("binds(3, 0)", d.shares.binds(3, 0), BAD);
        d.due("binds(0, 3)", d.shares.binds(0, 3), BAD);
        d.due("binds(3, 3), BAD comes first", d.shares.binds(3, 3), BAD);
        d.due("binds(2, 2)", d.shares.binds(2, 2), NO);
        d.due("binds(0, 0)", d.shares.binds(0, 0), NO);
        d.dueRefused(3 * FAR.length + 3, 2, 0);
        d.due("told(9)", d.shares.told(9), 1);
        d.due("told(4)", d.shares.told(4), 3);
    }

    // ---- promise 14

    private static void joinsEachPair() {
        String sentence = "PARTY q comes to PARTY p: STRENGTHS together (999 at most), of each LOT the greater WORTH, a VETO, "
            + "if either has one; q is no more: how many PARTIES there are. S. BAD; NO: q is p.";
        int[][] worths = {{1, 8, 3, 5, 0, 77}, {7, 2, 3, 4, 9, 76}, {0, 99, 4, 7, 9, 78}, {6, 6, 6, 0, 1, 0}};
        for (int p = 0; p < 4; p++) {
            for (int q = 0; q < 4; q++) {
                Desk d = Document.says(sentence, "=a;=b;=c;=d;=e;=f;"
                    + "+1:1,8,3,5,0,77;+2:7,2,3,4,9,76!;+4:0,99,4,7,9,78;+8:6,6,6,0,1,0!;");
                d.due("joins(" + p + ", " + q + ")", d.shares.joins(p, q), p == q ? NO : 3);
                if (p != q) {
                    dueJoined(d, worths, p, q);
                }
            }
        }
    }

    private static void dueJoined(Desk d, int[][] worths, int p, int q) {
        int number = 0;
        for (int old = 0; old < 4; old++) {
            if (old != q) {
                d.due("party(" + number + ", 0)", d.shares.party(number, 0), (1 << old) + (old == p ? 1 << q : 0));
                d.due("party(" + number + ", 1)", d.shares.party(number, 1), old % 2 == 1 || old == p && q % 2 == 1 ? 1 : 0);
                for (int k = 0; k < 6; k++) {
                    int other = old == p ? worths[q][k] : 0;
                    d.due("worth(" + number + ", " + k + ")", d.shares.worth(number, k), Math.max(worths[old][k], other));
                }
                number++;
            }
        }
        d.due("party(3, 0)", d.shares.party(3, 0), BAD);
        d.due("told(5)", d.shares.told(5), 3);
        d.due("told(9)", d.shares.told(9), 2);
        d.due("back()", d.shares.back(), 1);
        for (int old = 0; old < 4; old++) {
            d.due("party(" + old + ", 0)", d.shares.party(old, 0), 1 << old);
            d.due("party(" + old + ", 1)", d.shares.party(old, 1), old % 2);
        }
    }

    private static void joinsCapped() {
        String sentence = "STRENGTHS together (999 at most)";
        int[][] strengths = {{1, 1, 2}, {499, 500, 999}, {500, 500, 999}, {999, 1, 999}, {999, 999, 999}};
        for (int[] of : strengths) {
            Desk d = Document.says(sentence, "+" + of[0] + ":;+" + of[1] + ":;");
            d.due("joins(0, 1)", d.shares.joins(0, 1), 1);
            d.due("party(0, 0)", d.shares.party(0, 0), of[2]);
        }
    }

    private static void joinsVetoes() {
        String sentence = "a VETO, if either has one";
        for (int vetoes = 0; vetoes < 4; vetoes++) {
            String text = "=a;=b;+3:1,1" + (vetoes % 2 == 1 ? "!" : "") + ";+2:1,1" + (vetoes >= 2 ? "!" : "") + ";+1:1,1;";
            for (int p = 0; p < 2; p++) {
                Desk d = Document.says(sentence, text);
                d.due("joins(p, 1 - p)", d.shares.joins(p, 1 - p), 2);
                d.due("party(0, 1)", d.shares.party(0, 1), vetoes > 0 ? 1 : 0);
                d.due("party(1, 1)", d.shares.party(1, 1), 0);
                d.due("told(8)", d.shares.told(8), vetoes > 0 ? 1 : 0);
            }
        }
        Desk used = Document.says(sentence, "=a;=b;+3:1,1;+2:1,1!;+1:1,1;");
        used.shares.takes(0);
        used.due("vetoes(1)", used.shares.vetoes(1), 0);
        used.due("joins(0, 1): VETOES are as told", used.shares.joins(0, 1), 2);
        used.due("party(0, 1)", used.shares.party(0, 1), 1);
    }

    private static void joinsToTheLast() {
        Desk d = Document.says("q is no more: how many PARTIES there are.", "=a;+1:1;+2:2!;+3:9;+4:4;");
        for (int left = 3; left >= 1; left--) {
            d.due("joins(0, 1)", d.shares.joins(0, 1), left);
            d.due("told(5)", d.shares.told(5), left);
        }
        d.due("party(0, 0)", d.shares.party(0, 0), 10);
        d.due("worth(0, 0)", d.shares.worth(0, 0), 9);
        d.due("party(0, 1)", d.shares.party(0, 1), 1);
        d.due("joins(0, 1)", d.shares.joins(0, 1), BAD);
        d.due("joins(0, 0)", d.shares.joins(0, 0), NO);
        d.due("turn(0)", d.shares.turn(0), 0);
    }

    private static void joinsRefused() {
        Desk d = Document.says("how many PARTIES there are. S. BAD; NO: q is p.", THREE);
        for (int far : FAR) {
            d.due("joins(" + far + ", 0)", d.shares.joins(far, 0), BAD);
            d.due("joins(0, " + far + ")", d.shares.joins(0, far), BAD);
            d.due("joins(" + far + ", " + far + "), BAD comes first", d.shares.joins(far, far), BAD);
        }
        d.due("joins(3, 0)", d.shares.joins(3, 0), BAD);
        d.due("joins(0, 3)", d.shares.joins(0, 3), BAD);
        d.due("joins(3, 3), BAD comes first", d.shares.joins(3, 3), BAD);
        d.due("joins(2, 2)", d.shares.joins(2, 2), NO);
        d.due("joins(0, 0)", d.shares.joins(0, 0), NO);
        d.dueRefused(3 * FAR.length + 3, 2, 0);
        d.due("told(9)", d.shares.told(9), 1);
        d.due("told(5)", d.shares.told(5), 3);
    }
}
