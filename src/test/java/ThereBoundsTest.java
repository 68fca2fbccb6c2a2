/** The document's sentences on what there is and on TURNS, and promises 1 and 6 to 9, one test for each. */
final class ThereBoundsTest {
    private static final String SIX_LOTS = "=a;=b;=c;=d;=e;=f;";
    private static final String SIX_ZEROS = "0,0,0,0,0,0";
    private static final int[] FAR = {Integer.MIN_VALUE, -65536, -1, 64, 65536, Integer.MAX_VALUE};
    private static final int NONE = PostShares.NONE;
    private static final int BAD = PostShares.BAD;

    public static void main(String[] args) {
        lotsAtMost();
        partiesAtMost();
        strengths();
        worths();
        perhapsAVeto();
        rules();
        nothingAtFirst();
        neverCut();
        quotientsOfRules();
        firstQuotientOfRuleFour();
        likeQuotients();
        turnsAsManyAsLots();
        turnsOfOneParty();
        lotBounds();
        lotTellsWhatIsDone();
        partyBounds();
        partyTellsTurns();
        partyAtItsGreatest();
        worthBounds();
        turnBounds();
        Desk.end();
    }

    // ---- how many, and how great

    private static void lotsAtMost() {
        for (int lots = 0; lots <= 6; lots++) {
            Desk d = Document.says("LOTS 0, 1, .. (6 at most)", SIX_LOTS.substring(0, 3 * lots) + "+1:"
                + SIX_ZEROS.substring(0, lots == 0 ? 0 : 2 * lots - 1) + ";");
            d.due("told(4)", d.shares.told(4), lots);
            for (int k = 0; k < lots; k++) {
                d.due("lot(" + k + ", 0)", d.shares.lot(k, 0), 1 << k);
            }
            d.due("lot(" + lots + ", 0)", d.shares.lot(lots, 0), BAD);
            d.due("takes(" + lots + ")", d.shares.takes(lots), BAD);
        }
    }

    private static void partiesAtMost() {
        for (int parties = 0; parties <= 4; parties++) {
            StringBuilder text = new StringBuilder();
            for (int p = 0; p < parties; p++) {
                text.append('+').append(7 + p).append(":;");
            }
            Desk d = Document.says("PARTIES 0, 1, .. (4 at most)", text.toString());
            d.due("told(5)", d.shares.told(5), parties);
            for (int p = 0; p < parties; p++) {
                d.due("party(" + p + ", 0)", d.shares.party(p, 0), 7 + p);
            }
            d.due("party(" + parties + ", 0)", d.shares.party(parties, 0), BAD);
            d.due("foreseen(" + parties + ")", d.shares.foreseen(parties), BAD);
        }
    }

    private static void strengths() {
        Desk d = Document.says("each with a STRENGTH (1 .. 999)", "+1:;+999:;");
        d.due("party(0, 0), the least", d.shares.party(0, 0), 1);
        d.due("party(1, 0), the greatest", d.shares.party(1, 0), 999);
        d.due("strength(0, 0)", d.shares.strength(0, 0), BAD);
        d.due("strength(0, 1000)", d.shares.strength(0, 1000), BAD);
        d.due("strength(0, 999)", d.shares.strength(0, 999), 1);
        d.due("strength(1, 1)", d.shares.strength(1, 1), 999);
        d.due("reads(), 0", d.reads("+0:;"), -11);
        d.due("reads(), 1000", d.reads("+1000:;"), -14);
    }

    private static void worths() {
        Desk d = Document.says("a WORTH (0 .. 99) of each LOT", "=a;=b;+1:0,99;");
        d.due("worth(0, 0), the least", d.shares.worth(0, 0), 0);
        d.due("worth(0, 1), the greatest", d.shares.worth(0, 1), 99);
        d.due("rates(0, 0, -1)", d.shares.rates(0, 0, -1), BAD);
        d.due("rates(0, 0, 100)", d.shares.rates(0, 0, 100), BAD);
        d.due("rates(0, 0, 99)", d.shares.rates(0, 0, 99), 0);
        d.due("rates(0, 1, 0)", d.shares.rates(0, 1, 0), 99);
        d.due("reads(), 100", d.reads("=a;+1:100;"), -18);
    }

    private static void perhapsAVeto() {
        for (int vetoes = 0; vetoes < 16; vetoes++) {
            StringBuilder text = new StringBuilder();
            for (int p = 0; p < 4; p++) {
                text.append((vetoes >> p & 1) == 1 ? "+1:!;" : "+1:;");
            }
            Desk d = Document.says("and perhaps a VETO", text.toString());
            for (int p = 0; p < 4; p++) {
                d.due("party(" + p + ", 1)", d.shares.party(p, 1), vetoes >> p & 1);
            }
            d.due("told(8)", d.shares.told(8), Integer.bitCount(vetoes));
        }
    }

    private static void rules() {
        Desk d = Document.says("RULE 0 .. 4 (0 at first)");
        d.due("told(6), at first", d.shares.told(6), 0);
        for (int n = 1; n <= 4; n++) {
            d.due("rule(" + n + ")", d.shares.rule(n), n - 1);
            d.due("told(6)", d.shares.told(6), n);
        }
        d.due("rule(5)", d.shares.rule(5), BAD);
        d.due("rule(-1)", d.shares.rule(-1), BAD);
        d.due("rule(0)", d.shares.rule(0), 4);
        d.due("reads(), 5", d.reads("%5;"), -11);
    }

    private static void nothingAtFirst() {
        Desk d = Document.says("At first there is nothing.");
        for (int what = 0; what < 10; what++) {
            d.due("told(" + what + ")", d.shares.told(what), 0);
        }
        for (int what = 0; what < 4; what++) {
            d.due("reason(" + what + ")", d.shares.reason(what), NONE);
            d.due("lot(0, " + what + ")", d.shares.lot(0, what), BAD);
        }
        for (int what = 0; what < 6; what++) {
            d.due("party(0, " + what + ")", d.shares.party(0, what), BAD);
        }
        d.due("turn(0)", d.shares.turn(0), NONE);
        d.due("best()", d.shares.best(), NONE);
        d.due("course(0)", d.shares.course(0), NONE);
        d.due("clear()", d.shares.clear(), 0);
        d.due("back()", d.shares.back(), PostShares.NO);
        d.dueRefused(10, 1, 0);
        d = Document.says("`PostShares()`: Nothing.");
        long h = 2269;
        for (int i = 0; i < 10; i++) {
            h = 31 * h;
        }
        d.due("digest()", d.shares.digest(), h);
        d.due("vetoes(0)", d.shares.vetoes(0), BAD);
        d.due("takes(0)", d.shares.takes(0), BAD);
        d.due("reads()", d.shares.reads(), 0);
    }

    // ---- QUOTIENTS and TURNS

    private static void neverCut() {
        String sentence = "QUOTIENTS (never cut) of a PARTY that has had t TURNS";
        // 998 / 3 = 332.7 is more than 332, and less than 333
        dueTurns(sentence, 0, 4, "0,0,0,1", 998, 332);
        dueTurns(sentence, 0, 4, "0,0,1,0", 998, 333);
        // 5 / 3 = 1.67 against 3 / 2 = 1.5: cut, both were 1
        dueTurns(sentence, 0, 4, "1,0,1,1", 3, 5);
        // RULE 4: 5 * 4 / 7 = 2.86 against 5 * 8 / 15 = 2.67, and 5 * 3 / 7 = 2.14 against it
        dueTurns(sentence, 4, 2, "1,0", 4, 8);
        dueTurns(sentence, 4, 2, "1,1", 3, 8);
    }

    /** A PARTY's n-th QUOTIENT against the first one of a PARTY that is a little weaker, like, stronger. */
    private static void quotientsOfRules() {
        // 900 by 1, 2, 3, 4, 5: as many TURNS ahead of the other's as are greater or like
        dueTurns("STRENGTH by t and 1 (RULE 0)", 0, 5, "0,0,0,0,1", 900, 225);
        dueTurns("STRENGTH by t and 1 (RULE 0)", 0, 4, "0,0,0,1", 900, 226);
        dueTurns("STRENGTH by t and 1 (RULE 0)", 0, 6, "0,0,0,0,0,1", 900, 180);
        dueTurns("STRENGTH by t and 1 (RULE 0)", 0, 6, "0,0,0,0,1,0", 900, 181);
        // 945 by 1, 3, 5, 7, 9
        dueTurns("2 t and 1 (1)", 1, 5, "0,0,0,0,1", 945, 135);
        dueTurns("2 t and 1 (1)", 1, 5, "0,0,0,1,0", 945, 136);
        dueTurns("2 t and 1 (1)", 1, 6, "0,0,0,0,0,1", 945, 105);
        dueTurns("2 t and 1 (1)", 1, 6, "0,0,0,0,1,0", 945, 106);
        // 900 by 2, 3, 4, 5, 6 against 2: 900 * 2 / 4 = 450, 900 * 2 / 6 = 300
        dueTurns("t and 2 (2)", 2, 4, "0,0,0,1", 900, 450);
        dueTurns("t and 2 (2)", 2, 4, "0,0,1,0", 900, 451);
        dueTurns("t and 2 (2)", 2, 6, "0,0,0,0,0,1", 900, 300);
        dueTurns("t and 2 (2)", 2, 6, "0,0,0,0,1,0", 900, 301);
        // 910 by 1, 4, 7, 10, 13
        dueTurns("3 t and 1 (3)", 3, 4, "0,0,0,1", 910, 130);
        dueTurns("3 t and 1 (3)", 3, 4, "0,0,1,0", 910, 131);
        dueTurns("3 t and 1 (3)", 3, 6, "0,0,0,0,0,1", 910, 70);
        dueTurns("3 t and 1 (3)", 3, 6, "0,0,0,0,1,0", 910, 71);
    }

    private static void firstQuotientOfRuleFour() {
        String sentence = "RULE 4: STRENGTH times 5 by 7 for t = 0, else STRENGTH times 5 by 10 t and 5.";
        // 900 * 5 by 7, 15, 25, 35, 45 against 5 s by 7: like for s = 420, 252, 180, 140
        dueTurns(sentence, 4, 3, "0,0,1", 900, 420);
        dueTurns(sentence, 4, 3, "0,1,0", 900, 421);
        dueTurns(sentence, 4, 4, "0,0,0,1", 900, 252);
        dueTurns(sentence, 4, 4, "0,0,1,0", 900, 253);
        dueTurns(sentence, 4, 5, "0,0,0,0,1", 900, 180);
        dueTurns(sentence, 4, 5, "0,0,0,1,0", 900, 181);
        dueTurns(sentence, 4, 6, "0,0,0,0,0,1", 900, 140);
        dueTurns(sentence, 4, 6, "0,0,0,0,1,0", 900, 141);
        // both behind their first: 5 * 900 by 25 against 5 * 540 by 15, like
        dueTurns(sentence, 4, 5, "0,1,0,0,1", 900, 540);
        dueTurns(sentence, 4, 5, "0,1,0,1,0", 900, 541);
    }

    private static void likeQuotients() {
        String sentence = "The next TURN is that of the PARTY of the greatest QUOTIENT, of like ones the greater STRENGTH, "
            + "then the lower number.";
        // 999 / 3 = 333: the greater STRENGTH comes first, whatever its number
        dueTurns(sentence, 0, 4, "0,0,0,1", 999, 333);
        dueTurns(sentence, 0, 4, "1,1,1,0", 333, 999);
        // 6 / 2 = 3 / 1 and 6 / 2 = 3 / 1 again of another one of like STRENGTH
        dueTurns(sentence, 0, 6, "1,1,0,2,1,1", 3, 6, 3);
        for (int rule = 0; rule <= 4; rule++) {
            dueTurns(sentence, rule, 6, "0,1,2,3,0,1", 5, 5, 5, 5);
            dueTurns(sentence, rule, 6, "3,2,1,0,3,2", 996, 997, 998, 999);
            dueTurns(sentence, rule, 6, "0,1,2,3,0,1", 999, 998, 997, 996);
            dueTurns(sentence, rule, 6, "3,3,3,3,3,3", 1, 1, 1, 999);
            dueTurns(sentence, rule, 3, "1,2,0", 7, 8, 8);
        }
    }

    private static void turnsAsManyAsLots() {
        String sentence = "TURNS 0, 1, ..: as many as LOTS are; without PARTIES there are none.";
        for (int lots = 0; lots <= 6; lots++) {
            String told = SIX_LOTS.substring(0, 3 * lots);
            String zeros = SIX_ZEROS.substring(0, lots == 0 ? 0 : 2 * lots - 1);
            Desk d = Document.says(sentence, told + "+2:" + zeros + ";+2:" + zeros + ";");
            for (int t = 0; t < 9; t++) {
                d.due("turn(" + t + ") of " + lots, d.shares.turn(t), t < lots ? t % 2 : NONE);
            }
            d.due("party(0, 3)", d.shares.party(0, 3), (lots + 1) / 2);
            d.due("party(1, 3)", d.shares.party(1, 3), lots / 2);
            d = Document.says(sentence, told);
            for (int t = 0; t < 7; t++) {
                d.due("turn(" + t + ") without PARTIES", d.shares.turn(t), NONE);
            }
            d.due("best()", d.shares.best(), NONE);
            if (lots > 0) {
                d.due("takes(0)", d.shares.takes(0), PostShares.NO);
            }
        }
    }

    private static void turnsOfOneParty() {
        String sentence = "TURNS 0, 1, ..: as many as LOTS are";
        for (int rule = 0; rule <= 4; rule++) {
            dueTurns(sentence, rule, 6, "0,0,0,0,0,0", 1);
        }
    }

    // ---- promises 6 to 9

    private static void lotBounds() {
        Desk d = Document.says("Of a LOT: its POSTS (what = 0, bits), the PARTY that has it (1; NONE), the TURN at which it "
            + "was TAKEN (2; NONE), whether it is BARRED (3: 1, 0). BAD.", "=a;=bl;+1:1,1;");
        d.due("lot(1, 0)", d.shares.lot(1, 0), 2 + 2048);
        d.due("lot(1, 1)", d.shares.lot(1, 1), NONE);
        d.due("lot(1, 2)", d.shares.lot(1, 2), NONE);
        d.due("lot(1, 3)", d.shares.lot(1, 3), 0);
        d.due("lot(1, 4)", d.shares.lot(1, 4), BAD);
        d.due("lot(2, 0)", d.shares.lot(2, 0), BAD);
        d.due("lot(2, 4)", d.shares.lot(2, 4), BAD);
        for (int far : FAR) {
            d.due("lot(" + far + ", 0)", d.shares.lot(far, 0), BAD);
            d.due("lot(0, " + far + ")", d.shares.lot(0, far), BAD);
        }
        d.dueRefused(3 + 2 * FAR.length, 0, 0);
    }

    private static void lotTellsWhatIsDone() {
        Desk d = Document.says("the PARTY that has it (1; NONE), the TURN at which it was TAKEN (2; NONE), whether it is BARRED",
            "=a;=b;=c;+9:1,1,1!;+8:1,1,1!;");
        d.due("takes(2)", d.shares.takes(2), 0);
        dueLot(d, 2, 0, 0, 0);
        d.due("vetoes(1)", d.shares.vetoes(1), 2);
        dueLot(d, 2, NONE, NONE, 1);
        dueLot(d, 1, NONE, NONE, 0);
        d.due("takes(0)", d.shares.takes(0), 0);
        dueLot(d, 0, 0, 0, 0);
        dueLot(d, 2, NONE, NONE, 0);
        d.due("takes(2)", d.shares.takes(2), 1);
        dueLot(d, 2, 1, 1, 0);
        d.due("takes(1)", d.shares.takes(1), 0);
        dueLot(d, 1, 0, 2, 0);
    }

    private static void partyBounds() {
        Desk d = Document.says("Of a PARTY: STRENGTH (what = 0), whether it has a VETO left (1: 1, 0), SUM (2), how many TURNS "
            + "are its in all (3), how many it has had (4), WORTHS of all LOTS to it together (5). BAD.",
            "=a;=b;=c;+9:1,2,4!;+8:8,16,32!;");
        dueParty(d, 0, 9, 1, 0, 2, 0, 7);
        dueParty(d, 1, 8, 1, 0, 1, 0, 56);
        d.due("party(1, 6)", d.shares.party(1, 6), BAD);
        d.due("party(2, 0)", d.shares.party(2, 0), BAD);
        d.due("party(2, 6)", d.shares.party(2, 6), BAD);
        for (int far : FAR) {
            d.due("party(" + far + ", 0)", d.shares.party(far, 0), BAD);
            d.due("party(0, " + far + ")", d.shares.party(0, far), BAD);
        }
        d.dueRefused(3 + 2 * FAR.length, 0, 0);
        d.shares.takes(1);
        d.shares.vetoes(1);
        dueParty(d, 0, 9, 1, 0, 2, 0, 7);
        dueParty(d, 1, 8, 0, 0, 1, 0, 56);
        d.shares.takes(2);
        dueParty(d, 0, 9, 1, 4, 2, 1, 7);
        dueParty(d, 1, 8, 0, 0, 1, 0, 56);
        d.shares.takes(1);
        dueParty(d, 1, 8, 0, 16, 1, 1, 56);
        d.shares.takes(0);
        dueParty(d, 0, 9, 1, 5, 2, 2, 7);
    }

    private static void partyTellsTurns() {
        String sentence = "how many TURNS are its in all (3), how many it has had (4)";
        Desk d = Document.says(sentence, "=a;=b;+9:1,1!;+1:1,1!;");
        dueParty(d, 1, 1, 1, 0, 0, 0, 2);
        dueParty(d, 0, 9, 1, 0, 2, 0, 2);
        d.shares.takes(0);
        d.shares.takes(1);
        dueParty(d, 0, 9, 1, 2, 2, 2, 2);
        dueParty(d, 1, 1, 1, 0, 0, 0, 2);
        d = Document.says(sentence, "+9:;+1:!;");
        dueParty(d, 0, 9, 0, 0, 0, 0, 0);
        dueParty(d, 1, 1, 1, 0, 0, 0, 0);
    }

    private static void partyAtItsGreatest() {
        Desk d = Document.says("WORTHS of all LOTS to it together (5)",
            SIX_LOTS + "+1:" + SIX_ZEROS + ";+1:" + SIX_ZEROS + ";+1:" + SIX_ZEROS + ";+999:99,99,99,99,99,99!;");
        dueParty(d, 0, 1, 0, 0, 0, 0, 0);
        dueParty(d, 3, 999, 1, 0, 6, 0, 594);
        for (int k = 5; k >= 0; k--) {
            d.due("takes(" + k + ")", d.shares.takes(k), 3);
        }
        dueParty(d, 3, 999, 1, 594, 6, 6, 594);
        dueParty(d, 2, 1, 0, 0, 0, 0, 0);
    }

    private static void worthBounds() {
        Desk d = Document.says("WORTH of a LOT to a PARTY. BAD.", SIX_LOTS + "+1:1,2,3,4,5,6;+1:11,12,13,14,15,16;"
            + "+1:21,22,23,24,25,26;+1:31,32,33,34,35,36;");
        for (int p = 0; p < 4; p++) {
            for (int k = 0; k < 6; k++) {
                d.due("worth(" + p + ", " + k + ")", d.shares.worth(p, k), 10 * p + k + 1);
            }
            d.due("worth(" + p + ", 6)", d.shares.worth(p, 6), BAD);
            d.due("worth(" + p + ", -1)", d.shares.worth(p, -1), BAD);
        }
        for (int far : FAR) {
            d.due("worth(" + far + ", 0)", d.shares.worth(far, 0), BAD);
            d.due("worth(0, " + far + ")", d.shares.worth(0, far), BAD);
        }
        d.due("worth(4, 0)", d.shares.worth(4, 0), BAD);
        d.due("worth(4, 6)", d.shares.worth(4, 6), BAD);
        d.dueRefused(10 + 2 * FAR.length, 0, 0);
    }

    private static void turnBounds() {
        Desk d = Document.says("The PARTY whose TURN t (0 on) is; NONE: there is no such TURN. BAD: t below 0.",
            SIX_LOTS + "+2:" + SIX_ZEROS + ";+1:" + SIX_ZEROS + ";");
        d.due("turn(0)", d.shares.turn(0), 0);
        d.due("turn(5)", d.shares.turn(5), 1);
        d.due("turn(6)", d.shares.turn(6), NONE);
        d.due("turn(7)", d.shares.turn(7), NONE);
        d.due("turn(max)", d.shares.turn(Integer.MAX_VALUE), NONE);
        d.dueRefused(0, 0, 0);
        d.due("turn(-1)", d.shares.turn(-1), BAD);
        d.due("turn(min)", d.shares.turn(Integer.MIN_VALUE), BAD);
        d.dueRefused(2, 0, 0);
        d.shares.takes(0);
        d.due("turn(0), had, is there yet", d.shares.turn(0), 0);
        d.due("turn(5)", d.shares.turn(5), 1);
    }

    // ---- helpers

    private static void dueTurns(String sentence, int rule, int lots, String due, int... strengths) {
        StringBuilder text = new StringBuilder(SIX_LOTS.substring(0, 3 * lots)).append('%').append(rule).append(';');
        for (int strength : strengths) {
            text.append('+').append(strength).append(':').append(SIX_ZEROS, 0, 2 * lots - 1).append(';');
        }
        Desk d = Document.says(sentence, text.toString());
        String[] parties = due.split(",");
        for (int t = 0; t < lots; t++) {
            d.due("turn(" + t + ") of " + text, d.shares.turn(t), Integer.parseInt(parties[t]));
        }
        d.due("turn behind the last", d.shares.turn(lots), NONE);
    }

    private static void dueLot(Desk d, int k, int... due) {
        for (int i = 0; i < due.length; i++) {
            d.due("lot(" + k + ", " + (i + 1) + ")", d.shares.lot(k, i + 1), due[i]);
        }
    }

    private static void dueParty(Desk d, int p, int... due) {
        for (int what = 0; what < due.length; what++) {
            d.due("party(" + p + ", " + what + ")", d.shares.party(p, what), due[what]);
        }
    }
}
