/** Promises 10 to 14: rates, strength, rule, binds, joins. */
final class ChangesTest {
    private static final String THREE = "=a;=bc;=l;%1;+30:7,50,1!;+20:4,60,9;+10:5,5,5!;";

    public static void main(String[] args) {
        rates();
        strength();
        rule();
        binds();
        joins();
        refused();
        everyChangeStartsAnew();
        Desk.end();
    }

    private static void rates() {
        Desk d = Desk.of("10 rates", THREE);
        d.due("rates(1, 2, 0)", d.shares.rates(1, 2, 0), 9);
        d.due("worth(1, 2)", d.shares.worth(1, 2), 0);
        d.due("worth(0, 2)", d.shares.worth(0, 2), 1);
        d.due("rates(1, 2, 99)", d.shares.rates(1, 2, 99), 0);
        d.due("party(1, 5)", d.shares.party(1, 5), 163);
        d.due("rates(1, 2, 99) again", d.shares.rates(1, 2, 99), PostShares.NO);
        d.due("told(9)", d.shares.told(9), 3);
        d.due("foreseen(1) follows", d.shares.foreseen(1), 99);
    }

    private static void strength() {
        Desk d = Desk.of("11 strength", THREE);
        d.due("strength(2, 999)", d.shares.strength(2, 999), 10);
        d.due("party(2, 0)", d.shares.party(2, 0), 999);
        d.due("turn(0)", d.shares.turn(0), 2);
        d.due("party(2, 3)", d.shares.party(2, 3), 3);
        d.due("strength(2, 1)", d.shares.strength(2, 1), 999);
        d.due("turn(2)", d.shares.turn(2), 0);
        d.due("strength(2, 1) again", d.shares.strength(2, 1), PostShares.NO);
        d.due("told(9)", d.shares.told(9), 3);
    }

    private static void rule() {
        Desk d = Desk.of("12 rule", THREE);
        d.due("rule(1)", d.shares.rule(1), PostShares.NO);
        d.due("rule(4)", d.shares.rule(4), 1);
        d.due("told(6)", d.shares.told(6), 4);
        d.due("rule(0)", d.shares.rule(0), 4);
        d.due("told(6)", d.shares.told(6), 0);
        d.due("told(9)", d.shares.told(9), 3);
        Desk nothing = new Desk("12 rule of nothing");
        nothing.due("rule(0)", nothing.shares.rule(0), PostShares.NO);
        nothing.due("rule(3)", nothing.shares.rule(3), 0);
        nothing.due("told(9)", nothing.shares.told(9), 1);
    }

    private static void binds() {
        Desk d = Desk.of("13 binds", THREE);
        d.due("binds(2, 0)", d.shares.binds(2, 0), 2);
        d.due("lot(0, 0)", d.shares.lot(0, 0), 6);
        d.due("lot(1, 0)", d.shares.lot(1, 0), 2049);
        d.due("lot(2, 0)", d.shares.lot(2, 0), PostShares.BAD);
        d.due("worth(0, 0)", d.shares.worth(0, 0), 50);
        d.due("worth(0, 1)", d.shares.worth(0, 1), 8);
        d.due("worth(1, 1)", d.shares.worth(1, 1), 13);
        d.due("worth(2, 1)", d.shares.worth(2, 1), 10);
        d.due("told(4)", d.shares.told(4), 2);
        d.due("turn(1)", d.shares.turn(1), 1);
        d.due("turn(2)", d.shares.turn(2), PostShares.NONE);
        d.due("rates(1, 0, 90)", d.shares.rates(1, 0, 90), 60);
        d.due("binds(0, 1)", d.shares.binds(0, 1), 1);
        d.due("worth(0, 0)", d.shares.worth(0, 0), 58);
        d.due("worth(1, 0), 99 at most", d.shares.worth(1, 0), 99);
        d.due("lot(0, 0)", d.shares.lot(0, 0), 2055);
        d.due("told(9)", d.shares.told(9), 4);
    }

    private static void joins() {
        Desk d = Desk.of("14 joins", THREE);
        d.due("joins(1, 0)", d.shares.joins(1, 0), 2);
        d.due("party(0, 0)", d.shares.party(0, 0), 50);
        d.due("party(0, 1), a veto", d.shares.party(0, 1), 1);
        d.due("worth(0, 0)", d.shares.worth(0, 0), 7);
        d.due("worth(0, 1)", d.shares.worth(0, 1), 60);
        d.due("worth(0, 2)", d.shares.worth(0, 2), 9);
        d.due("party(1, 0)", d.shares.party(1, 0), 10);
        d.due("party(1, 1)", d.shares.party(1, 1), 1);
        d.due("worth(1, 1)", d.shares.worth(1, 1), 5);
        d.due("party(2, 0)", d.shares.party(2, 0), PostShares.BAD);
        d.due("told(5)", d.shares.told(5), 2);
        d.due("told(8)", d.shares.told(8), 2);
        d.due("strength(1, 950)", d.shares.strength(1, 950), 10);
        d.due("joins(0, 1)", d.shares.joins(0, 1), 1);
        d.due("party(0, 0), 999 at most", d.shares.party(0, 0), 999);
        d.due("told(8)", d.shares.told(8), 1);
        d.due("told(9)", d.shares.told(9), 4);
        Desk none = Desk.of("14 joins without a veto", "=a;+1:1;+2:2;+3:3!;");
        none.due("joins(1, 0)", none.shares.joins(1, 0), 2);
        none.due("party(0, 1)", none.shares.party(0, 1), 0);
        none.due("party(1, 1)", none.shares.party(1, 1), 1);
    }

    private static void refused() {
        Desk d = Desk.of("10 to 14 refused", THREE);
        d.shares.takes(0);
        String before = d.everything();
        d.due("rates(3, 0, 1)", d.shares.rates(3, 0, 1), PostShares.BAD);
        d.due("rates(-1, 0, 1)", d.shares.rates(-1, 0, 1), PostShares.BAD);
        d.due("rates(0, 3, 1)", d.shares.rates(0, 3, 1), PostShares.BAD);
        d.due("rates(0, -1, 1)", d.shares.rates(0, -1, 1), PostShares.BAD);
        d.due("rates(0, 0, -1)", d.shares.rates(0, 0, -1), PostShares.BAD);
        d.due("rates(0, 0, 100)", d.shares.rates(0, 0, 100), PostShares.BAD);
        d.due("strength(3, 1)", d.shares.strength(3, 1), PostShares.BAD);
        d.due("strength(-1, 1)", d.shares.strength(-1, 1), PostShares.BAD);
        d.due("strength(0, 0)", d.shares.strength(0, 0), PostShares.BAD);
        d.due("strength(0, 1000)", d.shares.strength(0, 1000), PostShares.BAD);
        d.due("rule(-1)", d.shares.rule(-1), PostShares.BAD);
        d.due("rule(5)", d.shares.rule(5), PostShares.BAD);
        d.due("binds(3, 3)", d.shares.binds(3, 3), PostShares.BAD);
        d.due("binds(0, 3)", d.shares.binds(0, 3), PostShares.BAD);
        d.due("binds(-1, 0)", d.shares.binds(-1, 0), PostShares.BAD);
        d.due("joins(3, 3)", d.shares.joins(3, 3), PostShares.BAD);
        d.due("joins(0, 3)", d.shares.joins(0, 3), PostShares.BAD);
        d.due("joins(-1, 0)", d.shares.joins(-1, 0), PostShares.BAD);
        d.dueRefused(18, 0, 0);
        d.due("rates(0, 0, 7)", d.shares.rates(0, 0, 7), PostShares.NO);
        d.due("strength(0, 30)", d.shares.strength(0, 30), PostShares.NO);
        d.due("rule(1)", d.shares.rule(1), PostShares.NO);
        d.due("binds(2, 2)", d.shares.binds(2, 2), PostShares.NO);
        d.due("joins(0, 0)", d.shares.joins(0, 0), PostShares.NO);
        d.dueRefused(18, 5, 0);
        Desk.check("refused changes change nothing", d.everything(), before);
        d.due("vetoes(2): refused calls are not done behind it", d.shares.vetoes(2), 0);
    }

    private static void everyChangeStartsAnew() {
        for (int change = 0; change < 5; change++) {
            Desk d = Desk.of("10 to 14 start anew " + change, THREE);
            d.shares.takes(0);
            d.shares.vetoes(2);
            d.shares.takes(1);
            d.shares.takes(0);
            d.shares.vetoes(0);
            d.due("told(8)", d.shares.told(8), 0);
            d.due("lot(0, 3)", d.shares.lot(0, 3), 1);
            change(d, change);
            d.due("told(7)", d.shares.told(7), 0);
            d.due("told(8), as told", d.shares.told(8), change == 4 ? 1 : 2);
            for (int k = 0; k < d.shares.told(4); k++) {
                d.due("lot(k, 1)", d.shares.lot(k, 1), PostShares.NONE);
                d.due("lot(k, 2)", d.shares.lot(k, 2), PostShares.NONE);
                d.due("lot(k, 3)", d.shares.lot(k, 3), 0);
            }
            d.due("vetoes(0), nothing was TAKEN", d.shares.vetoes(0), PostShares.NO);
            d.due("told(9)", d.shares.told(9), 6);
            d.due("back()", d.shares.back(), 5);
            d.due("told(7)", d.shares.told(7), 1);
            d.due("lot(0, 3)", d.shares.lot(0, 3), 1);
            d.due("told(8)", d.shares.told(8), 0);
        }
    }

    private static void change(Desk d, int change) {
        switch (change) {
            case 0 -> d.due("rates", d.shares.rates(0, 0, 8), 7);
            case 1 -> d.due("strength", d.shares.strength(0, 31), 30);
            case 2 -> d.due("rule", d.shares.rule(2), 1);
            case 3 -> d.due("binds", d.shares.binds(0, 1), 2);
            default -> d.due("joins", d.shares.joins(0, 2), 2);
        }
    }
}
