/** The document's sentences on what is truly done, and promises 15 and 16, one test for each. */
final class DoneBoundsTest {
    private static final String FOUR = "=a;=b;=c;=d;+9:1,2,3,4!;+8:1,2,3,4!;+7:1,2,3,4!;+1:1,2,3,4;";
    private static final int[] FAR = {Integer.MIN_VALUE, -65536, -1, 65536, Integer.MAX_VALUE};
    private static final int NONE = PostShares.NONE;
    private static final int BAD = PostShares.BAD;
    private static final int NO = PostShares.NO;

    public static void main(String[] args) {
        nobodyHasAndNotBarred();
        eachOtherParty();
        usedUp();
        barredForThisTurn();
        samePartyTakesAnother();
        theOnlyOneCanNotBeVetoed();
        itsForGood();
        sums();
        atTheTurnThatItIs();
        takenLast();
        nothingElseDone();
        whatIsNotDone();
        whateverOrder();
        behindTaken();
        allThatWereBarred();
        takesBounds();
        takesRefused();
        vetoesBounds();
        vetoesRefused();
        Desk.end();
    }

    // ---- a TURN

    private static void nobodyHasAndNotBarred() {
        Desk d = Document.says("At TURN t its PARTY TAKES a LOT that nobody has and that is not BARRED.", FOUR);
        d.due("takes(1)", d.shares.takes(1), 0);
        d.due("takes(1), another's", d.shares.takes(1), NO);
        d.due("takes(0)", d.shares.takes(0), 1);
        d.due("vetoes(2)", d.shares.vetoes(2), 0);
        d.due("takes(0), BARRED", d.shares.takes(0), NO);
        d.due("takes(1), another's", d.shares.takes(1), NO);
        d.due("takes(3)", d.shares.takes(3), 1);
        d.due("takes(3), another's", d.shares.takes(3), NO);
        d.due("takes(0), no more BARRED", d.shares.takes(0), 2);
        d.due("takes(2)", d.shares.takes(2), 0);
        d.dueRefused(0, 4, 0);
    }

    private static void eachOtherParty() {
        String sentence = "Then each other PARTY that has a VETO yet is asked";
        for (int p = 0; p < 4; p++) {
            Desk d = Document.says(sentence, FOUR);
            d.due("takes(2)", d.shares.takes(2), 0);
            d.due("vetoes(" + p + ")", d.shares.vetoes(p), p == 0 || p == 3 ? NO : 2);
        }
    }

    private static void usedUp() {
        Desk d = Document.says("it may use it up", FOUR);
        d.due("takes(0)", d.shares.takes(0), 0);
        d.due("vetoes(1)", d.shares.vetoes(1), 0);
        d.due("party(1, 1)", d.shares.party(1, 1), 0);
        d.due("told(8)", d.shares.told(8), 2);
        d.due("takes(1)", d.shares.takes(1), 0);
        d.due("vetoes(1), used up", d.shares.vetoes(1), NO);
        d.due("takes(0)", d.shares.takes(0), 1);
        d.due("takes(2)", d.shares.takes(2), 2);
        d.due("vetoes(1), in a later TURN", d.shares.vetoes(1), NO);
        d.due("vetoes(0)", d.shares.vetoes(0), 2);
        d.due("told(8)", d.shares.told(8), 1);
    }

    private static void barredForThisTurn() {
        Desk d = Document.says("then nobody has that LOT, it is BARRED for this TURN, and the same PARTY TAKES another one.", FOUR);
        d.shares.takes(3);
        d.due("vetoes(2)", d.shares.vetoes(2), 3);
        d.due("lot(3, 1)", d.shares.lot(3, 1), NONE);
        d.due("lot(3, 2)", d.shares.lot(3, 2), NONE);
        d.due("lot(3, 3)", d.shares.lot(3, 3), 1);
        for (int k = 0; k < 3; k++) {
            d.due("lot(k, 3)", d.shares.lot(k, 3), 0);
        }
        d.due("takes(3)", d.shares.takes(3), NO);
    }

    private static void samePartyTakesAnother() {
        Desk d = Document.says("and the same PARTY TAKES another one.", FOUR);
        d.due("takes(3)", d.shares.takes(3), 0);
        d.due("vetoes(2)", d.shares.vetoes(2), 3);
        d.due("told(7)", d.shares.told(7), 0);
        d.due("party(0, 4)", d.shares.party(0, 4), 0);
        d.due("takes(2)", d.shares.takes(2), 0);
        d.due("vetoes(1)", d.shares.vetoes(1), 2);
        d.due("takes(1)", d.shares.takes(1), 0);
        d.due("lot(1, 2)", d.shares.lot(1, 2), 0);
        d.due("takes(2)", d.shares.takes(2), 1);
        d.due("lot(2, 2)", d.shares.lot(2, 2), 1);
    }

    private static void theOnlyOneCanNotBeVetoed() {
        String sentence = "(A LOT that is the only one it can TAKE can not be vetoed.)";
        Desk d = Document.says(sentence, "=a;+9:1!;+8:1!;");
        d.due("takes(0)", d.shares.takes(0), 0);
        d.due("vetoes(1), one LOT in all", d.shares.vetoes(1), NO);
        d = Document.says(sentence, "=a;=b;+9:1,1!;+8:1,1!;");
        d.due("takes(0)", d.shares.takes(0), 0);
        d.due("takes(1)", d.shares.takes(1), 1);
        d.due("vetoes(0), the last LOT", d.shares.vetoes(0), NO);
        d = Document.says(sentence, "=a;=b;=c;+9:1,1,1!;+8:1,1,1!;+7:1,1,1!;+6:1,1,1!;");
        d.due("takes(0)", d.shares.takes(0), 0);
        d.due("vetoes(1)", d.shares.vetoes(1), 0);
        d.due("takes(1)", d.shares.takes(1), 0);
        d.due("vetoes(2), another one can be TAKEN", d.shares.vetoes(2), 1);
        d.due("takes(2)", d.shares.takes(2), 0);
        d.due("vetoes(3), both others are BARRED", d.shares.vetoes(3), NO);
        d.due("takes(1)", d.shares.takes(1), 1);
        d.due("vetoes(3), another one is free again", d.shares.vetoes(3), 1);
        d.due("takes(0)", d.shares.takes(0), 1);
        d.due("vetoes(0), the other one is BARRED", d.shares.vetoes(0), NO);
        d.due("told(8)", d.shares.told(8), 1);
    }

    private static void itsForGood() {
        Desk d = Document.says("Is there no VETO, the LOT is its for good, the next TURN comes, no LOT is BARRED.", FOUR);
        d.shares.takes(0);
        d.shares.vetoes(1);
        d.due("lot(0, 3)", d.shares.lot(0, 3), 1);
        d.due("takes(1)", d.shares.takes(1), 0);
        d.due("lot(0, 3)", d.shares.lot(0, 3), 0);
        d.due("takes(2)", d.shares.takes(2), 1);
        d.due("vetoes(2)", d.shares.vetoes(2), 2);
        d.due("lot(1, 1), for good", d.shares.lot(1, 1), 0);
        d.due("vetoes(0), LOT 1 was not TAKEN last", d.shares.vetoes(0), NO);
        d.due("takes(0), not BARRED in this TURN", d.shares.takes(0), 1);
        d.due("told(7)", d.shares.told(7), 2);
    }

    private static void sums() {
        Desk d = Document.says("SUM of a PARTY: the WORTHS to it of the LOTS that it has.", "=a;=b;=c;+9:99,2,98!;+8:50,0,51!;");
        dueSums(d, 0, 0);
        d.shares.takes(0);
        dueSums(d, 99, 0);
        d.shares.vetoes(1);
        dueSums(d, 0, 0);
        d.shares.takes(2);
        dueSums(d, 98, 0);
        d.shares.takes(1);
        dueSums(d, 98, 0);
        d.shares.takes(0);
        dueSums(d, 197, 0);
        d.shares.back();
        d.shares.back();
        d.shares.takes(0);
        dueSums(d, 98, 50);
    }

    private static void atTheTurnThatItIs() {
        Desk d = Document.says("What is truly done: TAKEN (at the TURN that it is)", "=a;=b;=c;+1:0,0,0!;+4:0,0,0!;+3:0,0,0!;");
        int[] parties = {1, 2, 1};
        for (int t = 0; t < 3; t++) {
            d.due("takes(" + t + ")", d.shares.takes(t), parties[t]);
            d.due("lot(" + t + ", 1)", d.shares.lot(t, 1), parties[t]);
            d.due("lot(" + t + ", 2)", d.shares.lot(t, 2), t);
        }
        d.shares.back();
        d.shares.vetoes(0);
        d.due("takes(2), the TURN that it is again", d.shares.takes(2), 2);
        d.due("lot(2, 2)", d.shares.lot(2, 2), 1);
    }

    // ---- what was TAKEN last

    private static void takenLast() {
        Desk d = Document.says("VETOED (the LOT that was TAKEN last, as long as nothing else was done behind it; by any PARTY that has "
            + "a VETO, in whatever order)", FOUR);
        d.shares.takes(2);
        d.shares.takes(0);
        d.due("vetoes(1), its own, though 2 was not", d.shares.vetoes(1), NO);
        d.due("vetoes(2), the last one alone", d.shares.vetoes(2), 0);
        d.due("lot(2, 1)", d.shares.lot(2, 1), 0);
        d.due("vetoes(0), a VETO came behind it", d.shares.vetoes(0), NO);
    }

    private static void nothingElseDone() {
        for (int other = 0; other < 7; other++) {
            Desk d = Document.says("as long as nothing else was done behind it", FOUR);
            d.shares.takes(0);
            switch (other) {
                case 0 -> d.due("reads()", d.shares.reads(), 8);
                case 1 -> d.due("rates()", d.shares.rates(3, 0, 9), 1);
                case 2 -> d.due("strength()", d.shares.strength(3, 2), 1);
                case 3 -> d.due("rule()", d.shares.rule(2), 0);
                case 4 -> d.due("binds()", d.shares.binds(3, 2), 3);
                case 5 -> d.due("joins()", d.shares.joins(0, 3), 3);
                default -> d.due("back()", d.shares.back(), 1);
            }
            d.due("vetoes(1) behind " + other, d.shares.vetoes(1), NO);
            d.due("vetoes(2) behind " + other, d.shares.vetoes(2), NO);
            d.dueRefused(0, 2, 0);
        }
    }

    private static void whatIsNotDone() {
        Desk d = Document.says("as long as nothing else was done behind it", FOUR);
        d.shares.takes(0);
        d.shares.type('x');
        d.due("reads() with a FAULT", d.shares.reads() <= -10 ? 1 : 0, 1);
        d.shares.clear();
        d.shares.reason(0);
        d.shares.lot(0, 1);
        d.shares.party(0, 1);
        d.shares.worth(0, 0);
        d.shares.turn(0);
        d.shares.foreseen(0);
        d.shares.best();
        d.shares.against(1);
        d.shares.taking(1, 0);
        d.shares.course(0);
        d.shares.sincere(0);
        d.shares.without(0, 1);
        d.shares.told(0);
        d.shares.digest();
        d.due("takes(0), refused", d.shares.takes(0), NO);
        d.due("takes(9), refused", d.shares.takes(9), BAD);
        d.due("vetoes(0), refused", d.shares.vetoes(0), NO);
        d.due("vetoes(9), refused", d.shares.vetoes(9), BAD);
        d.due("rates(), refused", d.shares.rates(0, 0, 1), NO);
        d.due("strength(), refused", d.shares.strength(0, 9), NO);
        d.due("rule(), refused", d.shares.rule(0), NO);
        d.due("binds(), refused", d.shares.binds(0, 0), NO);
        d.due("joins(), refused", d.shares.joins(0, 0), NO);
        d.due("vetoes(1)", d.shares.vetoes(1), 0);
    }

    private static void whateverOrder() {
        Desk d = Document.says("by any PARTY that has a VETO, in whatever order)", FOUR);
        d.shares.takes(3);
        d.due("vetoes(2), though 1 would be asked first", d.shares.vetoes(2), 3);
        d.shares.takes(2);
        d.due("vetoes(1)", d.shares.vetoes(1), 2);
        d.shares.takes(1);
        d.shares.takes(3);
        d.due("vetoes(0), whose TURN is over", d.shares.vetoes(0), 3);
    }

    private static void behindTaken() {
        Desk d = Document.says("Behind TAKEN the next TURN is told as come, and no LOT as BARRED", FOUR);
        d.shares.takes(3);
        d.due("told(7)", d.shares.told(7), 1);
        d.due("party(0, 4)", d.shares.party(0, 4), 1);
        d.shares.vetoes(1);
        d.shares.takes(2);
        d.due("told(7)", d.shares.told(7), 1);
        for (int k = 0; k < 4; k++) {
            d.due("lot(" + k + ", 3)", d.shares.lot(k, 3), 0);
        }
        d.due("lot(2, 1)", d.shares.lot(2, 1), 0);
        d.due("taking(3, 1) is no more refused", d.shares.taking(3, 1), 4);
    }

    private static void allThatWereBarred() {
        Desk d = Document.says("by VETOED the TURN is the same as before, with all LOTS that were BARRED in it.", FOUR);
        d.shares.takes(3);
        d.shares.vetoes(1);
        d.shares.takes(0);
        d.due("told(7)", d.shares.told(7), 1);
        d.due("lot(3, 3)", d.shares.lot(3, 3), 0);
        d.due("vetoes(2)", d.shares.vetoes(2), 0);
        d.due("told(7)", d.shares.told(7), 0);
        d.due("lot(0, 3)", d.shares.lot(0, 3), 1);
        d.due("lot(1, 3)", d.shares.lot(1, 3), 0);
        d.due("lot(2, 3)", d.shares.lot(2, 3), 0);
        d.due("lot(3, 3)", d.shares.lot(3, 3), 1);
        d.shares.takes(1);
        d.shares.takes(0);
        d.due("vetoes(0)", d.shares.vetoes(0), 0);
        d.due("lot(3, 3), BARRED in another TURN", d.shares.lot(3, 3), 0);
        d.due("lot(0, 3)", d.shares.lot(0, 3), 1);
    }

    // ---- promises 15 and 16

    private static void takesBounds() {
        Desk d = Document.says("TAKEN by the PARTY whose TURN it is: that PARTY. S.",
            "=a;=b;=c;=d;=e;=f;+1:0,0,0,0,0,0;+2:0,0,0,0,0,0;+4:0,0,0,0,0,0;+8:0,0,0,0,0,0;");
        int[] parties = {3, 3, 2, 3, 3, 2};
        for (int t = 0; t < 6; t++) {
            d.due("takes(" + (5 - t) + ")", d.shares.takes(5 - t), parties[t]);
            d.due("lot(" + (5 - t) + ", 1)", d.shares.lot(5 - t, 1), parties[t]);
            d.due("lot(" + (5 - t) + ", 2)", d.shares.lot(5 - t, 2), t);
            d.due("told(7)", d.shares.told(7), t + 1);
            d.due("told(9)", d.shares.told(9), Math.min(6, t + 2));
        }
    }

    private static void takesRefused() {
        String sentence = "BAD; NO: there is no TURN left, somebody has it, it is BARRED.";
        Desk d = Document.says(sentence, "=a;=b;+9:1,1!;+8:1,1!;");
        for (int far : FAR) {
            d.due("takes(" + far + ")", d.shares.takes(far), BAD);
        }
        d.due("takes(2)", d.shares.takes(2), BAD);
        d.due("takes(1)", d.shares.takes(1), 0);
        d.due("takes(1), somebody has it", d.shares.takes(1), NO);
        d.due("vetoes(1)", d.shares.vetoes(1), 1);
        d.due("takes(1), it is BARRED", d.shares.takes(1), NO);
        d.due("takes(2), BAD yet", d.shares.takes(2), BAD);
        d.due("takes(0)", d.shares.takes(0), 0);
        d.due("takes(1)", d.shares.takes(1), 1);
        d.due("takes(0), no TURN is left", d.shares.takes(0), NO);
        d.due("takes(2), BAD comes first", d.shares.takes(2), BAD);
        d.dueRefused(FAR.length + 3, 3, 0);
        d.due("told(9)", d.shares.told(9), 5);
        d = Document.says(sentence, "=a;");
        d.due("takes(0), without PARTIES no TURN", d.shares.takes(0), NO);
        d.due("lot(0, 1)", d.shares.lot(0, 1), NONE);
    }

    private static void vetoesBounds() {
        Desk d = Document.says("VETOED by a PARTY: the LOT. S.", "=a;=b;=c;=d;=e;=f;+9:0,0,0,0,0,0;+1:0,0,0,0,0,0!;"
            + "+1:0,0,0,0,0,0!;+1:0,0,0,0,0,0!;");
        for (int p = 1; p < 4; p++) {
            d.due("takes(" + (6 - p) + ")", d.shares.takes(6 - p), 0);
            d.due("vetoes(" + p + ")", d.shares.vetoes(p), 6 - p);
            d.due("told(8)", d.shares.told(8), 3 - p);
            d.due("told(9)", d.shares.told(9), Math.min(6, 1 + 2 * p));
        }
        d.due("back()", d.shares.back(), 5);
        d.due("lot(3, 1)", d.shares.lot(3, 1), 0);
        d.due("told(8)", d.shares.told(8), 1);
    }

    private static void vetoesRefused() {
        String sentence = "BAD; NO: it has no VETO, nothing was TAKEN last, it is its own, the LOT was the only one that could be TAKEN.";
        Desk d = Document.says(sentence, "=a;=b;+9:1,1!;+8:1,1!;+7:1,1;");
        d.due("vetoes(1), nothing was TAKEN last", d.shares.vetoes(1), NO);
        d.due("vetoes(3), BAD comes first", d.shares.vetoes(3), BAD);
        d.due("takes(0)", d.shares.takes(0), 0);
        for (int far : FAR) {
            d.due("vetoes(" + far + ")", d.shares.vetoes(far), BAD);
        }
        d.due("vetoes(3)", d.shares.vetoes(3), BAD);
        d.due("vetoes(2), it has no VETO", d.shares.vetoes(2), NO);
        d.due("vetoes(0), it is its own", d.shares.vetoes(0), NO);
        d.due("takes(1)", d.shares.takes(1), 1);
        d.due("vetoes(0), the only one", d.shares.vetoes(0), NO);
        d.dueRefused(FAR.length + 2, 4, 0);
        d.due("told(8)", d.shares.told(8), 2);
        d.due("told(9)", d.shares.told(9), 3);
        d.due("back()", d.shares.back(), 2);
        d.due("vetoes(1)", d.shares.vetoes(1), 0);
    }

    private static void dueSums(Desk d, int first, int second) {
        d.due("party(0, 2)", d.shares.party(0, 2), first);
        d.due("party(1, 2)", d.shares.party(1, 2), second);
    }
}
