/** Promises 17 to 23: foreseen, best, against, taking, course, sincere, without. */
final class ForesightTest {
    /** Whoever takes 0, 1 would rather have it, and can bar it: so 0 gets lot 1 only. */
    private static final String PAIR = "=a;=b;+3:5,4;+2:5,4!;";
    /** All alike: the one whose TURN is last bars what the second takes. */
    private static final String ALIKE = "=a;=b;=c;+10:5,4,3!;+10:5,4,3!;+10:5,4,3!;";

    public static void main(String[] args) {
        pair();
        pairAsThingsAre();
        pairWithout();
        alike();
        sparesWhatOthersWant();
        askedByStrength();
        twoVetoesInOneTurn();
        usedUpVetoes();
        ends();
        refused();
        Desk.end();
    }

    private static void pair() {
        Desk d = Desk.of("17 to 22 pair", PAIR);
        dueSums(d, 4, 5);
        d.due("best(), vetoed or not, of like ones the lowest", d.shares.best(), 0);
        d.due("against(0)", d.shares.against(0), 1);
        d.due("against(1)", d.shares.against(1), PostShares.NONE);
        d.due("taking(0, 0)", d.shares.taking(0, 0), 4);
        d.due("taking(0, 1)", d.shares.taking(0, 1), 5);
        d.due("taking(1, 0)", d.shares.taking(1, 0), 4);
        d.due("taking(1, 1)", d.shares.taking(1, 1), 5);
        dueCourse(d, 2, 10, 0);
        d.due("sincere(0)", d.shares.sincere(0), 5);
        d.due("sincere(1)", d.shares.sincere(1), 4);
        d.due("told(9), questions leave no STATE", d.shares.told(9), 1);
        d.due("told(7)", d.shares.told(7), 0);
    }

    private static void pairAsThingsAre() {
        Desk d = Desk.of("17 to 23 as things are", PAIR);
        d.shares.takes(0);
        dueSums(d, 5, 4);
        d.due("best()", d.shares.best(), 1);
        d.due("against(1), the only one", d.shares.against(1), PostShares.NONE);
        d.due("against(0), had", d.shares.against(0), PostShares.NO);
        d.due("taking(0, 0), had", d.shares.taking(0, 0), PostShares.NO);
        d.due("taking(1, 0), with SUMS as they are", d.shares.taking(1, 0), 5);
        dueCourse(d, 10);
        d.shares.vetoes(1);
        dueSums(d, 4, 5);
        d.due("best()", d.shares.best(), 1);
        d.due("against(0), barred", d.shares.against(0), PostShares.NO);
        d.due("taking(0, 0), barred", d.shares.taking(0, 0), PostShares.NO);
        d.due("sincere(0), barred is not TAKEN", d.shares.sincere(0), 4);
        d.due("sincere(1)", d.shares.sincere(1), 5);
        dueCourse(d, 10, 0);
    }

    private static void pairWithout() {
        Desk d = Desk.of("23 without", PAIR);
        dueWithout(d, 0, 4, 5, 4);
        dueWithout(d, 1, 4, 4, 5);
        Desk none = Desk.of("23 without, nobody has one", "=a;=b;+3:5,4;+2:5,4;");
        dueWithout(none, 0, 5, 5, 4);
        dueWithout(none, 1, 4, 4, 5);
        dueSums(none, 5, 4);
        d.shares.takes(0);
        d.shares.vetoes(1);
        dueWithout(d, 1, 5, 5, 5);
    }

    private static void alike() {
        Desk d = Desk.of("17 to 23 alike", ALIKE);
        dueSums(d, 5, 3, 4);
        dueCourse(d, 0, 13, 20, 10);
        d.due("sincere(1)", d.shares.sincere(1), 4);
        d.due("sincere(2)", d.shares.sincere(2), 3);
        dueWithout(d, 2, 3, 3, 4);
        dueWithout(d, 1, 3, 4, 3);
    }

    private static void sparesWhatOthersWant() {
        // 0 takes first and last: nobody but it wants lot 1, so it takes the one of less WORTH first
        Desk d = Desk.of("17, 18, 22 foresight", "=a;=b;=c;+30:6,9,1;+20:8,1,5;");
        d.due("turn(1)", d.shares.turn(1), 1);
        d.due("best()", d.shares.best(), 0);
        dueSums(d, 15, 5);
        dueCourse(d, 0, 20, 10);
        d.due("sincere(0)", d.shares.sincere(0), 10);
        d.due("sincere(1)", d.shares.sincere(1), 8);
    }

    /** Either one would veto lot 0; the one asked first can leave it to the other one, and does. */
    private static void askedByStrength() {
        String lots = "=a;=b;=c;=d;=e;";
        dueAgainst(1, lots + "+5:5,1,2,2,0;+4:6,9,1,4,5!;+2:7,0,1,4,8;");
        dueAgainst(2, lots + "+5:5,1,2,2,0;+4:6,9,1,4,5;+2:7,0,1,4,8!;");
        dueAgainst(2, lots + "+5:5,1,2,2,0;+4:6,9,1,4,5!;+2:7,0,1,4,8!;");
        dueAgainst(1, lots + "+8:3,6,1,8,3;+3:8,8,9,1,8!;+7:9,2,3,1,5;");
        dueAgainst(2, lots + "+8:3,6,1,8,3;+3:8,8,9,1,8;+7:9,2,3,1,5!;");
        dueAgainst(1, lots + "+8:3,6,1,8,3;+3:8,8,9,1,8!;+7:9,2,3,1,5!;");
        String six = "=a;=b;=c;=d;=e;=f;%4;";
        dueAgainst(1, six + "+9:9,3,4,0,7,7;+8:6,0,4,8,4,0!;+8:7,8,4,1,3,1;");
        dueAgainst(2, six + "+9:9,3,4,0,7,7;+8:6,0,4,8,4,0;+8:7,8,4,1,3,1!;");
        dueAgainst(2, six + "+9:9,3,4,0,7,7;+8:6,0,4,8,4,0!;+8:7,8,4,1,3,1!;");
    }

    private static void dueAgainst(int party, String text) {
        Desk d = Desk.of("19 asked by strength " + text, text);
        d.due("against(0)", d.shares.against(0), party);
    }

    private static void twoVetoesInOneTurn() {
        // 2 wants lot 0, 1 wants lot 1: each bars it when 0, whose TURN is first, takes it
        Desk d = Desk.of("21 two vetoes in one turn", "=a;=b;=c;+6:1,0,0!;+4:1,5,4!;+5:4,0,1!;");
        dueCourse(d, 3, 12, 20, 0, 10);
        dueSums(d, 0, 5, 4);
        d.shares.takes(0);
        d.shares.vetoes(2);
        dueCourse(d, 12, 20, 0, 10);
        d.shares.takes(1);
        d.shares.vetoes(1);
        dueCourse(d, 20, 0, 10);
    }

    private static void usedUpVetoes() {
        Desk d = Desk.of("17 to 23 vetoes used up", ALIKE);
        d.shares.takes(0);
        d.shares.vetoes(2);
        d.shares.takes(1);
        d.due("against(0), 2 has none any more", d.shares.against(0), PostShares.NONE);
        dueSums(d, 4, 5, 3);
        dueWithout(d, 2, 3, 3, 5);
    }

    private static void ends() {
        Desk d = Desk.of("17 to 22 no turn left", "=a;+3:5!;+2:4!;");
        d.shares.takes(0);
        dueSums(d, 5, 0);
        d.due("best()", d.shares.best(), PostShares.NONE);
        dueCourse(d);
        d.due("sincere(0)", d.shares.sincere(0), 5);
        d.due("against(0)", d.shares.against(0), PostShares.NO);
        d.due("taking(0, 0)", d.shares.taking(0, 0), PostShares.NO);
        dueWithout(d, 0, 5, 5, 5);
        Desk alone = Desk.of("17 to 22 without parties", "=a;");
        alone.due("best()", alone.shares.best(), PostShares.NONE);
        alone.due("against(0)", alone.shares.against(0), PostShares.NO);
        alone.due("taking(0, 0)", alone.shares.taking(0, 0), PostShares.BAD);
        dueCourse(alone);
    }

    private static void refused() {
        Desk d = Desk.of("17 to 23 refused", PAIR);
        String before = d.everything();
        int[] wrong = {-1, 2, Integer.MAX_VALUE, Integer.MIN_VALUE};
        for (int n : wrong) {
            d.due("foreseen(wrong)", d.shares.foreseen(n), PostShares.BAD);
            d.due("against(wrong)", d.shares.against(n), PostShares.BAD);
            d.due("taking(wrong, 0)", d.shares.taking(n, 0), PostShares.BAD);
            d.due("taking(0, wrong)", d.shares.taking(0, n), PostShares.BAD);
            d.due("sincere(wrong)", d.shares.sincere(n), PostShares.BAD);
            d.due("without(wrong, 0)", d.shares.without(n, 0), PostShares.BAD);
            d.due("without(0, wrong)", d.shares.without(0, n == 2 ? 3 : n), PostShares.BAD);
        }
        d.due("course(-1)", d.shares.course(-1), PostShares.BAD);
        d.due("course(min)", d.shares.course(Integer.MIN_VALUE), PostShares.BAD);
        d.dueRefused(30, 0, 0);
        d.shares.takes(0);
        d.due("against(0)", d.shares.against(0), PostShares.NO);
        d.due("taking(0, 2), BAD comes first", d.shares.taking(0, 2), PostShares.BAD);
        d.dueRefused(31, 1, 0);
        d.shares.back();
        Desk.check("refused questions change nothing", d.everything(), before);
    }

    private static void dueSums(Desk d, int... sums) {
        for (int p = 0; p < sums.length; p++) {
            d.due("foreseen(" + p + ")", d.shares.foreseen(p), sums[p]);
        }
    }

    private static void dueWithout(Desk d, int p, int... sums) {
        for (int what = 0; what < sums.length; what++) {
            d.due("without(" + p + ", " + what + ")", d.shares.without(p, what), sums[what]);
        }
    }

    private static void dueCourse(Desk d, int... things) {
        for (int i = 0; i < things.length; i++) {
            d.due("course(" + i + ")", d.shares.course(i), things[i]);
        }
        d.due("course behind the last", d.shares.course(things.length), PostShares.NONE);
        d.due("course(max)", d.shares.course(Integer.MAX_VALUE), PostShares.NONE);
    }
}
