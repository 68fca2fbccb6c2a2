/** Promises 6 to 9: lot, party, worth, turn. */
final class ThereTest {
    private static final String TWO = "=a;=bc;=l;+3:7,5,1!;+2:4,6,9!;";

    public static void main(String[] args) {
        lotTellsWhatIsDone();
        partyTellsWhatIsDone();
        wrongNumbers();
        turnsOfEachRule();
        turnsOfLikeQuotients();
        turnsWithoutLotsOrParties();
        Desk.end();
    }

    private static void lotTellsWhatIsDone() {
        Desk d = Desk.of("6 lot", TWO);
        dueLot(d, 0, 1, -1, -1, 0);
        dueLot(d, 1, 6, -1, -1, 0);
        dueLot(d, 2, 2048, -1, -1, 0);
        d.due("takes(1)", d.shares.takes(1), 0);
        dueLot(d, 1, 6, 0, 0, 0);
        d.due("vetoes(1)", d.shares.vetoes(1), 1);
        dueLot(d, 1, 6, -1, -1, 1);
        dueLot(d, 0, 1, -1, -1, 0);
        d.due("takes(2)", d.shares.takes(2), 0);
        dueLot(d, 1, 6, -1, -1, 0);
        d.due("takes(1)", d.shares.takes(1), 1);
        dueLot(d, 1, 6, 1, 1, 0);
        dueLot(d, 2, 2048, 0, 0, 0);
        d.due("takes(0)", d.shares.takes(0), 0);
        dueLot(d, 0, 1, 0, 2, 0);
    }

    private static void partyTellsWhatIsDone() {
        Desk d = Desk.of("7, 8 party, worth", TWO);
        dueParty(d, 0, 3, 1, 0, 2, 0, 13);
        dueParty(d, 1, 2, 1, 0, 1, 0, 19);
        d.due("worth(0, 2)", d.shares.worth(0, 2), 1);
        d.due("worth(1, 2)", d.shares.worth(1, 2), 9);
        d.due("worth(1, 0)", d.shares.worth(1, 0), 4);
        d.shares.takes(0);
        dueParty(d, 0, 3, 1, 7, 2, 1, 13);
        d.shares.vetoes(1);
        dueParty(d, 0, 3, 1, 0, 2, 0, 13);
        dueParty(d, 1, 2, 0, 0, 1, 0, 19);
        d.shares.takes(1);
        d.shares.takes(2);
        d.shares.takes(0);
        dueParty(d, 0, 3, 1, 12, 2, 2, 13);
        dueParty(d, 1, 2, 0, 9, 1, 1, 19);
    }

    private static void wrongNumbers() {
        Desk d = Desk.of("6 to 9 wrong numbers", TWO);
        int[] wrongLots = {-1, 3, 6, Integer.MAX_VALUE, Integer.MIN_VALUE};
        int[] wrongParties = {-1, 2, 4, Integer.MAX_VALUE, Integer.MIN_VALUE};
        String before = d.everything();
        for (int n = 0; n < 5; n++) {
            d.due("lot(wrong, 0)", d.shares.lot(wrongLots[n], 0), PostShares.BAD);
            d.due("party(wrong, 0)", d.shares.party(wrongParties[n], 0), PostShares.BAD);
            d.due("worth(wrong, 0)", d.shares.worth(wrongParties[n], 0), PostShares.BAD);
            d.due("worth(0, wrong)", d.shares.worth(0, wrongLots[n]), PostShares.BAD);
        }
        d.due("lot(0, -1)", d.shares.lot(0, -1), PostShares.BAD);
        d.due("lot(0, 4)", d.shares.lot(0, 4), PostShares.BAD);
        d.due("party(0, -1)", d.shares.party(0, -1), PostShares.BAD);
        d.due("party(0, 6)", d.shares.party(0, 6), PostShares.BAD);
        d.due("turn(-1)", d.shares.turn(-1), PostShares.BAD);
        d.due("turn(min)", d.shares.turn(Integer.MIN_VALUE), PostShares.BAD);
        d.dueRefused(26, 0, 0);
        Desk.check("wrong questions change nothing", d.everything(), before);
    }

    private static void turnsOfEachRule() {
        String lots = "=a;=b;=c;=d;=e;=f;";
        String parties = "+60:0,0,0,0,0,0;+28:0,0,0,0,0,0;+12:0,0,0,0,0,0;";
        // 60 30 20 15 12 | 28 14 9.3 | 12 6
        dueTurns(lots + "%0;" + parties, 0, 0, 1, 0, 0, 1);
        // 60 20 12 8.6 | 28 9.3 5.6 | 12 4: of like ones the greater strength
        dueTurns(lots + "%1;" + parties, 0, 1, 0, 0, 2, 1);
        // 30 20 15 12 10 | 14 9.3 7 | 6
        dueTurns(lots + "%2;" + parties, 0, 0, 0, 1, 0, 0);
        // 60 15 8.6 6 | 28 7 4 | 12 3
        dueTurns(lots + "%3;" + parties, 0, 1, 0, 2, 0, 1);
        // 42.9 20 12 8.57 | 20 9.3 5.6 | 8.57 4: all ties go to the greater strength
        dueTurns(lots + "%4;" + parties, 0, 0, 1, 0, 1, 0);
        // a first quotient 5/7 s against 1/3 s': 15 * 3 = 45 > 7 * 6 = 42, and 14 * 3 = 42 like 42
        dueTurns("=a;=b;=c;%4;+18:0,0,0;+9:0,0,0;", 0, 1, 0);
        dueTurns("=a;=b;=c;%4;+15:0,0,0;+7:0,0,0;", 0, 0, 1);
        dueTurns("=a;=b;=c;%4;+7:0,0,0;+15:0,0,0;", 1, 1, 0);
    }

    private static void turnsOfLikeQuotients() {
        // 999 / 3 = 333 / 1: the greater strength; like strengths: the lower number
        dueTurns("=a;=b;=c;=d;+333:0,0,0,0;+999:0,0,0,0;", 1, 1, 1, 0);
        dueTurns("=a;=b;=c;=d;+5:0,0,0,0;+5:0,0,0,0;+5:0,0,0,0;", 0, 1, 2, 0);
        // 998 / 3 is not cut: 332.67 is less than 333
        dueTurns("=a;=b;=c;=d;+333:0,0,0,0;+998:0,0,0,0;", 1, 1, 0, 1);
    }

    private static void turnsWithoutLotsOrParties() {
        dueTurns("");
        dueTurns("=a;=b;");
        dueTurns("+1:;+2:;");
        Desk d = Desk.of("7 no turns", "+1:!;+2:;");
        dueParty(d, 0, 1, 1, 0, 0, 0, 0);
        d = Desk.of("9 turns are there when they were had, too", "=a;=b;+1:1,1;");
        d.shares.takes(0);
        d.due("turn(0)", d.shares.turn(0), 0);
    }

    private static void dueTurns(String text, int... parties) {
        Desk d = Desk.of("9 turn of " + text, text);
        for (int t = 0; t < parties.length; t++) {
            d.due("turn(" + t + ")", d.shares.turn(t), parties[t]);
        }
        d.due("turn behind the last", d.shares.turn(parties.length), PostShares.NONE);
        d.due("turn(6)", d.shares.turn(6), PostShares.NONE);
        d.due("turn(max)", d.shares.turn(Integer.MAX_VALUE), PostShares.NONE);
        d.dueRefused(0, 0, 0);
    }

    private static void dueLot(Desk d, int k, int... due) {
        for (int what = 0; what < due.length; what++) {
            d.due("lot(" + k + ", " + what + ")", d.shares.lot(k, what), due[what]);
        }
    }

    private static void dueParty(Desk d, int p, int... due) {
        for (int what = 0; what < due.length; what++) {
            d.due("party(" + p + ", " + what + ")", d.shares.party(p, what), due[what]);
        }
    }
}
