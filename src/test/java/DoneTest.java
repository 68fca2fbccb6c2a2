/** Promises 15 and 16: takes, vetoes. */
final class DoneTest {
    public static void main(String[] args) {
        takesInTurn();
        takesRefused();
        vetoesTheLastOne();
        vetoesRefused();
        theOnlyOne();
        barredComesBack();
        Desk.end();
    }

    private static void takesInTurn() {
        Desk d = Desk.of("15 takes", "=a;=b;=c;+3:1,2,4;+2:8,16,32;");
        d.due("takes(2)", d.shares.takes(2), 0);
        d.due("takes(1)", d.shares.takes(1), 1);
        d.due("takes(0)", d.shares.takes(0), 0);
        d.due("party(0, 2)", d.shares.party(0, 2), 5);
        d.due("party(1, 2)", d.shares.party(1, 2), 16);
        d.due("told(7)", d.shares.told(7), 3);
        d.due("told(9)", d.shares.told(9), 4);
    }

    private static void takesRefused() {
        Desk d = Desk.of("15 takes refused", "=a;=b;+3:1,2!;+2:8,16!;");
        d.due("takes(-1)", d.shares.takes(-1), PostShares.BAD);
        d.due("takes(2)", d.shares.takes(2), PostShares.BAD);
        d.due("takes(max)", d.shares.takes(Integer.MAX_VALUE), PostShares.BAD);
        d.due("takes(0)", d.shares.takes(0), 0);
        d.due("takes(0), had", d.shares.takes(0), PostShares.NO);
        d.due("vetoes(1)", d.shares.vetoes(1), 0);
        d.due("takes(0), barred", d.shares.takes(0), PostShares.NO);
        d.due("takes(1)", d.shares.takes(1), 0);
        d.due("takes(0), no more barred", d.shares.takes(0), 1);
        d.due("takes(0), no turn", d.shares.takes(0), PostShares.NO);
        d.dueRefused(3, 3, 0);
        Desk alone = Desk.of("15 takes without parties", "=a;");
        alone.due("takes(0)", alone.shares.takes(0), PostShares.NO);
        alone.due("takes(1)", alone.shares.takes(1), PostShares.BAD);
        alone.dueRefused(1, 1, 0);
    }

    private static void vetoesTheLastOne() {
        Desk d = Desk.of("16 vetoes", "=a;=b;=c;=d;+9:1,2,3,4!;+8:1,2,3,4!;+7:1,2,3,4!;+1:1,2,3,4;");
        d.due("takes(3)", d.shares.takes(3), 0);
        d.due("questions are nothing done", d.shares.best() + d.shares.foreseen(0) * 0, 2);
        d.shares.type('x');
        d.due("vetoes(2), though 1 is asked first", d.shares.vetoes(2), 3);
        d.due("told(7)", d.shares.told(7), 0);
        d.due("told(8)", d.shares.told(8), 2);
        d.due("party(2, 1)", d.shares.party(2, 1), 0);
        d.due("party(0, 4)", d.shares.party(0, 4), 0);
        d.due("vetoes(1), nothing taken last", d.shares.vetoes(1), PostShares.NO);
        d.due("takes(2)", d.shares.takes(2), 0);
        d.due("vetoes(1)", d.shares.vetoes(1), 2);
        d.due("lot(3, 3)", d.shares.lot(3, 3), 1);
        d.due("lot(2, 3)", d.shares.lot(2, 3), 1);
        d.due("takes(1)", d.shares.takes(1), 0);
        d.due("lot(3, 3), behind TAKEN", d.shares.lot(3, 3), 0);
        d.due("takes(3)", d.shares.takes(3), 1);
        d.due("vetoes(0)", d.shares.vetoes(0), 3);
        d.due("lot(2, 3), another TURN", d.shares.lot(2, 3), 0);
        d.due("lot(3, 3)", d.shares.lot(3, 3), 1);
        d.due("told(8)", d.shares.told(8), 0);
    }

    private static void vetoesRefused() {
        Desk d = Desk.of("16 vetoes refused", "=a;=b;=c;+9:1,2,3!;+8:1,2,3!;+7:1,2,3;");
        d.due("vetoes(0), nothing taken", d.shares.vetoes(0), PostShares.NO);
        d.shares.takes(0);
        d.due("vetoes(-1)", d.shares.vetoes(-1), PostShares.BAD);
        d.due("vetoes(3)", d.shares.vetoes(3), PostShares.BAD);
        d.due("vetoes(max)", d.shares.vetoes(Integer.MAX_VALUE), PostShares.BAD);
        d.due("vetoes(2), no veto", d.shares.vetoes(2), PostShares.NO);
        d.due("vetoes(0), its own", d.shares.vetoes(0), PostShares.NO);
        d.due("vetoes(1)", d.shares.vetoes(1), 0);
        d.shares.takes(1);
        d.due("vetoes(1), used up", d.shares.vetoes(1), PostShares.NO);
        d.dueRefused(3, 4, 0);
        d.due("told(9)", d.shares.told(9), 4);
        d = Desk.of("16 vetoes behind a change", "=a;=b;+9:1,2!;+8:1,2!;");
        d.shares.takes(0);
        d.shares.reads();
        d.due("vetoes(1)", d.shares.vetoes(1), PostShares.NO);
    }

    private static void theOnlyOne() {
        Desk d = Desk.of("16 the only one", "=a;=b;+9:1,2!;+8:1,2!;+7:1,2!;");
        d.shares.takes(0);
        d.due("vetoes(2)", d.shares.vetoes(2), 0);
        d.shares.takes(1);
        d.due("vetoes(1), 0 was barred", d.shares.vetoes(1), PostShares.NO);
        d.shares.takes(0);
        d.due("vetoes(0), the last one", d.shares.vetoes(0), PostShares.NO);
        Desk one = Desk.of("16 one lot", "=a;+9:1!;+8:1!;");
        one.shares.takes(0);
        one.due("vetoes(1)", one.shares.vetoes(1), PostShares.NO);
    }

    private static void barredComesBack() {
        Desk d = Desk.of("16, 24 back behind takes and vetoes", "=a;=b;=c;+9:1,2,3!;+8:1,2,3!;+7:1,2,3!;");
        d.shares.takes(0);
        d.shares.vetoes(1);
        d.shares.takes(1);
        d.due("back()", d.shares.back(), 3);
        d.due("lot(0, 3)", d.shares.lot(0, 3), 1);
        d.due("vetoes(2), the last thing was a VETO", d.shares.vetoes(2), PostShares.NO);
        d.due("back()", d.shares.back(), 2);
        d.due("lot(0, 1)", d.shares.lot(0, 1), 0);
        d.due("vetoes(2), the last thing was TAKEN", d.shares.vetoes(2), 0);
        d.due("party(1, 1)", d.shares.party(1, 1), 1);
        d = Desk.of("16, 24 back to a TURN with a LOT barred", "=a;=b;=c;=d;+9:1,2,3,4!;+8:1,2,3,4!;+7:1,2,3,4!;");
        d.shares.takes(0);
        d.shares.vetoes(1);
        d.shares.takes(1);
        d.shares.takes(2);
        d.due("back()", d.shares.back(), 4);
        d.due("vetoes(2)", d.shares.vetoes(2), 1);
        d.due("lot(0, 3), as it was BARRED before", d.shares.lot(0, 3), 1);
        d.due("lot(1, 3)", d.shares.lot(1, 3), 1);
        d.due("lot(2, 3)", d.shares.lot(2, 3), 0);
    }
}
