/** The document's sentences on what would come, and promises 17 to 23, one test for each. */
final class ForeseenBoundsTest {
    private static final String SIX_LOTS = "=a;=b;=c;=d;=e;=f;";
    /** 0 takes first; what it takes, 1 gets not: 1 has a VETO, and likes LOT 0 better. */
    private static final String PAIR = "=a;=b;+3:5,4;+2:5,4!;";
    /** All alike: the one whose TURN is last bars what the second takes. */
    private static final String ALIKE = "=a;=b;=c;+10:5,4,3!;+10:5,4,3!;+10:5,4,3!;";
    /** Every VETO is used: six LOTS and four VETOES make ten things. TURNS are those of 3, 0, 2, 1, 3, 0. */
    private static final String LONGEST = SIX_LOTS
        + "%2;+9:5,6,5,2,4,3!;+7:5,3,1,2,6,7!;+9:7,3,2,9,6,8!;+10:7,7,7,2,0,2!;";
    private static final int[] FAR = {Integer.MIN_VALUE, -65536, -1, 65536, Integer.MAX_VALUE};
    private static final int NONE = PostShares.NONE;
    private static final int BAD = PostShares.BAD;
    private static final int NO = PostShares.NO;

    public static void main(String[] args) {
        mostOfItsOwn();
        ofLikeOnesTheLowest();
        vetoesOnlyForMore();
        notItsOwn();
        noVetoNoTurn();
        vetoForTwoTurns();
        askedInOrder();
        askedInOrderByWhatIsTold();
        theOnlyOne();
        sincereOfLikeOnes();
        asThingsAreOn();
        barredInThisTurn();
        takenLastIsNotVetoed();
        foreseenBounds();
        foreseenAtItsGreatest();
        bestBounds();
        againstBounds();
        takingBounds();
        courseBounds();
        sincereBounds();
        withoutBounds();
        withoutEach();
        questionsLeaveNothing();
        Desk.end();
    }

    // ---- FORESEEN and SINCERE

    private static void mostOfItsOwn() {
        String sentence = "FORESEEN: each PARTY, at each thing it does, goes for its own SUM in the end, knowing that all do";
        // nobody else wants LOT 1: so 0, whose are the first and the last TURN, takes LOT 0 ahead of it
        Desk d = Document.says(sentence, "=a;=b;=c;+30:6,9,1;+20:8,1,5;");
        dueSums(d, 15, 5);
        dueCourse(d, 0, 20, 10);
        d.due("taking(1, 0)", d.shares.taking(1, 0), 10);
        d.due("sincere(0)", d.shares.sincere(0), 10);
    }

    private static void ofLikeOnesTheLowest() {
        String sentence = "it TAKES the LOT by which that is most, of like ones the lowest";
        Desk d = Document.says(sentence, "=a;=b;=c;+1:7,7,7;");
        dueCourse(d, 0, 10, 20);
        d = Document.says(sentence, "=a;=b;=c;+9:4,5,5;+8:0,0,0;+7:0,0,0;");
        dueCourse(d, 10, 0, 20);
        d = Document.says(sentence, "=a;=b;=c;+9:0,0,1;+8:0,0,0;+7:0,0,0;");
        dueCourse(d, 20, 0, 10);
        // LOT 0 would be vetoed, so both bring 4: the lower one is TAKEN all the same
        d = Document.says(sentence, PAIR);
        dueCourse(d, 2, 10, 0);
    }

    private static void vetoesOnlyForMore() {
        String sentence = "it vetoes, if its own SUM in the end is more by that, than if it does not.";
        dueAgainst(sentence, "=a;=b;+3:5,5;+2:5,4!;", 1, NONE);
        dueAgainst(sentence, "=a;=b;+3:5,5;+2:4,4!;", NONE, NONE);
        dueAgainst(sentence, "=a;=b;+3:5,5;+2:4,5!;", NONE, 1);
        dueAgainst(sentence, "=a;=b;+3:5,5;+2:0,0!;", NONE, NONE);
        dueAgainst(sentence, "=a;=b;+3:5,5;+2:99,98!;", 1, NONE);
        dueAgainst(sentence, "=a;=b;+3:5,5;+2:5,4;", NONE, NONE);
    }

    private static void notItsOwn() {
        // by vetoing its own, 0 could have LOT 1 in place of LOT 0
        Desk d = Document.says("Then each other PARTY that has a VETO yet is asked", "=a;=b;+3:1,9!;+2:1,1;");
        d.due("against(0)", d.shares.against(0), NONE);
        d.due("taking(0, 0)", d.shares.taking(0, 0), 1);
        d.due("best()", d.shares.best(), 1);
        d = Document.says("that has a VETO yet", "=a;=b;=c;+10:5,4,3!;+10:5,4,3!;+10:5,4,3!;");
        d.shares.takes(0);
        d.shares.vetoes(2);
        d.due("against(1), 2 has none any more", d.shares.against(1), NONE);
        d.shares.takes(1);
        d.due("against(0), 2 has none any more", d.shares.against(0), NONE);
    }

    private static void noVetoNoTurn() {
        // 2 has no TURN: no VETO brings it more, though it has one
        Desk d = Document.says("if its own SUM in the end is more by that", "=a;=b;+9:5,4;+8:5,4;+1:9,9!;");
        d.due("party(2, 3)", d.shares.party(2, 3), 0);
        d.due("against(0)", d.shares.against(0), NONE);
        d.due("against(1)", d.shares.against(1), NONE);
        dueSums(d, 5, 4, 0);
    }

    private static void vetoForTwoTurns() {
        // TURNS are those of 0, 1, 0, 1: by a VETO now, 1 gets 9 and 1 in place of 5 and 1
        Desk d = Document.says("it may use it up", "=a;=b;=c;=d;+5:9,5,1,1;+5:9,5,1,1!;");
        d.due("against(0)", d.shares.against(0), 1);
        dueSums(d, 6, 10);
    }

    /** Either one would veto LOT 0; the one asked first can leave it to the other one, and does. */
    private static void askedInOrder() {
        String five = "=a;=b;=c;=d;=e;";
        dueInEachOrder(1, five, "+5:5,1,2,2,0;", "+4:6,9,1,4,5!;", "+2:7,0,1,4,8;");
        dueInEachOrder(2, five, "+5:5,1,2,2,0;", "+4:6,9,1,4,5;", "+2:7,0,1,4,8!;");
        dueInEachOrder(2, five, "+5:5,1,2,2,0;", "+4:6,9,1,4,5!;", "+2:7,0,1,4,8!;");
        dueInEachOrder(1, five, "+8:3,6,1,8,3;", "+3:8,8,9,1,8!;", "+7:9,2,3,1,5;");
        dueInEachOrder(2, five, "+8:3,6,1,8,3;", "+3:8,8,9,1,8;", "+7:9,2,3,1,5!;");
        dueInEachOrder(1, five, "+8:3,6,1,8,3;", "+3:8,8,9,1,8!;", "+7:9,2,3,1,5!;");
        String like = "of like ones the lower number first";
        dueAgainst(like, SIX_LOTS + "%4;+9:9,3,4,0,7,7;+8:6,0,4,8,4,0!;+8:7,8,4,1,3,1;", 1);
        dueAgainst(like, SIX_LOTS + "%4;+9:9,3,4,0,7,7;+8:6,0,4,8,4,0;+8:7,8,4,1,3,1!;", 2);
        dueAgainst(like, SIX_LOTS + "%4;+9:9,3,4,0,7,7;+8:6,0,4,8,4,0!;+8:7,8,4,1,3,1!;", 2);
    }

    /** As no STRENGTHS are like, it is the same PARTY against LOT 0, whatever number it has. */
    private static void dueInEachOrder(int party, String lots, String... parties) {
        int[][] orders = {{0, 1, 2}, {0, 2, 1}, {1, 0, 2}, {1, 2, 0}, {2, 0, 1}, {2, 1, 0}};
        for (int[] order : orders) {
            int number = 0;
            while (order[number] != party) {
                number++;
            }
            dueAgainst("by greater STRENGTH", lots + parties[order[0]] + parties[order[1]] + parties[order[2]], number);
        }
    }

    private static void askedInOrderByWhatIsTold() {
        String sentence = "is asked, by greater STRENGTH, of like ones the lower number first";
        Desk d = Document.says(sentence, "=a;=b;=c;=d;=e;+5:5,1,2,2,0;+4:6,9,1,4,5!;+2:7,0,1,4,8!;");
        d.due("against(0), the second one asked", d.shares.against(0), 2);
        d.due("strength(2, 999), it would be the first one asked", d.shares.strength(2, 999), 2);
        d.due("back()", d.shares.back(), 1);
        d.due("against(0), the second one asked again", d.shares.against(0), 2);
        d.due("reads()", d.reads("=a;=b;=c;=d;=e;+2:7,0,1,4,8!;+5:5,1,2,2,0;+4:6,9,1,4,5!;"), 8);
        d.due("against(0), told otherwise", d.shares.against(0), 0);
        d.due("strength(0, 1)", d.shares.strength(0, 1), 2);
        d.due("strength(0, 2)", d.shares.strength(0, 2), 1);
        d.due("against(0), told so again", d.shares.against(0), 0);
        for (int left = 3; left > 0; left--) {
            d.shares.back();
        }
        d.due("against(0), told as at first", d.shares.against(0), 2);
        d = Document.says(sentence, "=a;=b;+1:5,4!;+9:5,4;+2:0,0;");
        d.due("against(0), 0 has no TURN", d.shares.against(0), NONE);
        d.due("strength(0, 5)", d.shares.strength(0, 5), 1);
        d.due("against(0), 0 has the next TURN", d.shares.against(0), 0);
    }

    private static void theOnlyOne() {
        String sentence = "(A LOT that is the only one it can TAKE can not be vetoed.)";
        // 2 bars LOT 0, so 0 must take LOT 1, which 1 wants, too
        Desk d = Document.says(sentence, "=a;=b;+9:1,1;+8:0,9!;+1:5,5!;");
        d.due("against(1)", d.shares.against(1), 1);
        d.shares.takes(0);
        d.due("vetoes(2)", d.shares.vetoes(2), 0);
        d.due("against(1), the only one", d.shares.against(1), NONE);
        d.due("taking(1, 0)", d.shares.taking(1, 0), 1);
        dueSums(d, 1, 0, 0);
        dueCourse(d, 10, 0);
    }

    private static void sincereOfLikeOnes() {
        String sentence = "SINCERE: nobody vetoes, each TAKES at its TURN the LOT of most WORTH to it, of like ones the lowest.";
        Desk d = Document.says(sentence, PAIR);
        dueSincere(d, 5, 4);
        // 0 takes LOT 1, the lower one of like ones; 1 gets 3 by LOT 2
        d = Document.says(sentence, "=a;=b;=c;+9:1,6,6;+8:0,5,3;+7:7,0,0;");
        dueSincere(d, 6, 3, 7);
        d = Document.says(sentence, "=a;=b;=c;+9:0,0,0;+8:9,8,7;+7:3,2,1;");
        dueSincere(d, 0, 8, 1);
    }

    private static void asThingsAreOn() {
        String sentence = "(Both from things as they are on, with SUMS as they are; what is BARRED in this TURN is not TAKEN in it.)";
        Desk d = Document.says(sentence, "=a;=b;=c;+30:6,9,1;+20:8,1,5;");
        d.shares.takes(2);
        dueSums(d, 10, 8);
        dueSincere(d, 10, 8);
        dueCourse(d, 0, 10);
        d.shares.takes(1);
        dueSums(d, 7, 1);
        dueSincere(d, 7, 1);
        d.shares.takes(0);
        dueSums(d, 7, 1);
        dueSincere(d, 7, 1);
        dueCourse(d);
    }

    private static void barredInThisTurn() {
        String sentence = "what is BARRED in this TURN is not TAKEN in it.";
        Desk d = Document.says(sentence, "=a;=b;=c;+9:9,5,1!;+8:9,5,1!;+7:9,5,1!;");
        d.shares.takes(0);
        d.shares.vetoes(1);
        dueSincere(d, 5, 9, 1);
        d.due("best()", d.shares.best() == 0 ? 1 : 0, 0);
        d.due("against(0)", d.shares.against(0), NO);
        d.due("taking(0, 0)", d.shares.taking(0, 0), NO);
        d.shares.takes(1);
        d.shares.vetoes(2);
        dueSincere(d, 1, 9, 5);
        dueCourse(d, 20, 0, 10);
    }

    private static void takenLastIsNotVetoed() {
        Desk d = Document.says("(as things are NOW; what was TAKEN last is not vetoed any more)", PAIR);
        dueSums(d, 4, 5);
        d.shares.takes(0);
        dueSums(d, 5, 4);
        dueCourse(d, 10);
        d.due("vetoes(1), it truly can be", d.shares.vetoes(1), 0);
        dueSums(d, 4, 5);
    }

    // ---- promises 17 to 23

    private static void foreseenBounds() {
        Desk d = Document.says("FORESEEN: the SUM of a PARTY in the end. BAD.", LONGEST);
        dueSums(d, 10, 7, 9, 14);
        for (int far : FAR) {
            d.due("foreseen(" + far + ")", d.shares.foreseen(far), BAD);
        }
        d.due("foreseen(4)", d.shares.foreseen(4), BAD);
        d.dueRefused(FAR.length + 1, 0, 0);
        d = Document.says("FORESEEN: the SUM of a PARTY in the end. BAD.", "+1:!;");
        d.due("foreseen(0) without LOTS", d.shares.foreseen(0), 0);
        d.due("foreseen(1)", d.shares.foreseen(1), BAD);
    }

    private static void foreseenAtItsGreatest() {
        String zeros = ":0,0,0,0,0,0!;";
        for (int p = 0; p < 4; p++) {
            StringBuilder text = new StringBuilder(SIX_LOTS);
            for (int q = 0; q < 4; q++) {
                text.append(q == p ? "+999:99,99,99,99,99,99!;" : "+1" + zeros);
            }
            Desk d = Document.says("the SUM of a PARTY in the end", text.toString());
            for (int q = 0; q < 4; q++) {
                d.due("foreseen(" + q + ")", d.shares.foreseen(q), q == p ? 594 : 0);
                d.due("taking(5, " + q + ")", d.shares.taking(5, q), q == p ? 594 : 0);
                d.due("sincere(" + q + ")", d.shares.sincere(q), q == p ? 594 : 0);
                d.due("without(" + q + ", 2)", d.shares.without(q, 2), q == p ? 594 : 0);
            }
            d.shares.takes(5);
            d.due("foreseen(" + p + "), with a SUM", d.shares.foreseen(p), 594);
        }
    }

    private static void bestBounds() {
        String sentence = "FORESEEN: the LOT that is TAKEN now (whether it is vetoed or not); NONE: no TURN is left.";
        Desk d = Document.says(sentence, PAIR);
        d.due("best(), vetoed", d.shares.best(), 0);
        d.due("against(0)", d.shares.against(0), 1);
        d.shares.takes(1);
        d.due("best(), not vetoed", d.shares.best(), 0);
        d.due("against(0)", d.shares.against(0), NONE);
        d.shares.takes(0);
        d.due("best(), no TURN is left", d.shares.best(), NONE);
        d = Document.says(sentence);
        d.due("best() of nothing", d.shares.best(), NONE);
        d = Document.says(sentence, "=a;");
        d.due("best() without PARTIES", d.shares.best(), NONE);
        d = Document.says(sentence, "+1:;");
        d.due("best() without LOTS", d.shares.best(), NONE);
        d.dueRefused(0, 0, 0);
    }

    private static void againstBounds() {
        String sentence = "FORESEEN: the PARTY that would veto a LOT, if it were TAKEN now; NONE: nobody. BAD; NO: no TURN is left, "
            + "somebody has it, it is BARRED.";
        Desk d = Document.says(sentence, PAIR);
        d.due("against(0)", d.shares.against(0), 1);
        d.due("against(1)", d.shares.against(1), NONE);
        d.dueRefused(0, 0, 0);
        for (int far : FAR) {
            d.due("against(" + far + ")", d.shares.against(far), BAD);
        }
        d.due("against(2)", d.shares.against(2), BAD);
        d.shares.takes(0);
        d.due("against(0), somebody has it", d.shares.against(0), NO);
        d.shares.vetoes(1);
        d.due("against(0), it is BARRED", d.shares.against(0), NO);
        d.shares.takes(1);
        d.due("against(0), no more BARRED", d.shares.against(0), NONE);
        d.shares.takes(0);
        d.due("against(0), no TURN is left", d.shares.against(0), NO);
        d.due("against(2), BAD comes first", d.shares.against(2), BAD);
        d.dueRefused(FAR.length + 2, 3, 0);
        d = Document.says(sentence, "=a;");
        d.due("against(0) without PARTIES", d.shares.against(0), NO);
        d = Document.says(sentence, "=a;=b;+3:4,4;+1:1,2!;+2:4,5!;+1:9,9!;");
        d.due("against(1): the PARTY's number", d.shares.against(1), 2);
    }

    private static void takingBounds() {
        String sentence = "FORESEEN: the SUM of a PARTY in the end, if a LOT were TAKEN now. BAD; NO: no TURN is left, "
            + "somebody has it, it is BARRED.";
        Desk d = Document.says(sentence, "=a;=b;=c;+30:6,9,1!;+20:8,1,5!;");
        // LOT 0 or 1 TAKEN: 1 saves its VETO, as 0 would then have 15 all the same; behind LOT 2 it gets LOT 0
        int[][] sums = {{15, 5}, {15, 5}, {10, 8}};
        for (int k = 0; k < 3; k++) {
            for (int p = 0; p < 2; p++) {
                d.due("taking(" + k + ", " + p + ")", d.shares.taking(k, p), sums[k][p]);
            }
        }
        for (int far : FAR) {
            d.due("taking(" + far + ", 0)", d.shares.taking(far, 0), BAD);
            d.due("taking(0, " + far + ")", d.shares.taking(0, far), BAD);
        }
        d.due("taking(3, 0)", d.shares.taking(3, 0), BAD);
        d.due("taking(0, 2)", d.shares.taking(0, 2), BAD);
        d.shares.takes(0);
        d.due("taking(0, 1), somebody has it", d.shares.taking(0, 1), NO);
        d.due("taking(0, 2), BAD comes first", d.shares.taking(0, 2), BAD);
        d.shares.vetoes(1);
        d.due("taking(0, 1), it is BARRED", d.shares.taking(0, 1), NO);
        d.due("taking(2, 0)", d.shares.taking(2, 0), 10);
        d.shares.takes(2);
        d.due("taking(0, 1)", d.shares.taking(0, 1), 8);
        d.due("taking(1, 1), as 0 vetoes it", d.shares.taking(1, 1), 8);
        d.due("taking(1, 0)", d.shares.taking(1, 0), 10);
        d.shares.takes(0);
        d.shares.takes(1);
        d.due("taking(1, 0), no TURN is left", d.shares.taking(1, 0), NO);
        d.due("taking(3, 0), BAD comes first", d.shares.taking(3, 0), BAD);
        d.dueRefused(2 * FAR.length + 4, 3, 0);
        d = Document.says(sentence, "=a;");
        d.due("taking(0, 0) without PARTIES, BAD comes first", d.shares.taking(0, 0), BAD);
    }

    private static void courseBounds() {
        String sentence = "FORESEEN, thing by thing from now on: the i-th (0 on) that is done: 10 times the LOT that is TAKEN and 0, "
            + "if nobody vetoes it, else the PARTY that does, and 1; NONE: not so many. BAD: i below 0.";
        Desk d = Document.says(sentence, LONGEST);
        dueCourse(d, 0, 12, 24, 33, 40, 30, 50, 11, 20, 10);
        d.due("course(11)", d.shares.course(11), NONE);
        d.dueRefused(0, 0, 0);
        d.due("course(-1)", d.shares.course(-1), BAD);
        d.due("course(min)", d.shares.course(Integer.MIN_VALUE), BAD);
        d.dueRefused(2, 0, 0);
        // done as foreseen, thing by thing: the rest of the course stays the same
        int[] done = {0, 12, 24, 33, 40, 30, 50, 11, 20, 10};
        for (int i = 0; i < done.length; i++) {
            d.due("takes", d.shares.takes(done[i] / 10) >= 0 ? 1 : 0, 1);
            if (done[i] % 10 > 0) {
                d.due("vetoes", d.shares.vetoes(done[i] % 10 - 1), done[i] / 10);
            }
            for (int j = i + 1; j < done.length; j++) {
                d.due("course(" + (j - i - 1) + ") from " + i + " on", d.shares.course(j - i - 1), done[j]);
            }
        }
        d.due("course(0), no TURN is left", d.shares.course(0), NONE);
        dueSums(d, 10, 7, 9, 14);
        dueCourse(Document.says(sentence));
        dueCourse(Document.says(sentence, "=a;"));
        dueCourse(Document.says(sentence, "+1:!;"));
        dueCourse(Document.says(sentence, "=a;+1:0!;"), 0);
    }

    private static void sincereBounds() {
        String sentence = "SINCERE: the SUM of a PARTY in the end. BAD.";
        Desk d = Document.says(sentence, ALIKE);
        dueSincere(d, 5, 4, 3);
        for (int far : FAR) {
            d.due("sincere(" + far + ")", d.shares.sincere(far), BAD);
        }
        d.due("sincere(3)", d.shares.sincere(3), BAD);
        d.dueRefused(FAR.length + 1, 0, 0);
        d = Document.says(sentence, "+1:!;");
        dueSincere(d, 0);
    }

    private static void withoutBounds() {
        String sentence = "FORESEEN as if a PARTY had no VETO (what = 0), as if nobody had one (1), as if all had one (2): "
            + "its SUM in the end. BAD.";
        Desk d = Document.says(sentence, PAIR);
        dueWithout(d, 0, 4, 5, 4);
        dueWithout(d, 1, 4, 4, 5);
        for (int far : FAR) {
            d.due("without(" + far + ", 0)", d.shares.without(far, 0), BAD);
            d.due("without(0, " + far + ")", d.shares.without(0, far), BAD);
        }
        d.due("without(2, 0)", d.shares.without(2, 0), BAD);
        d.due("without(0, 3)", d.shares.without(0, 3), BAD);
        d.due("without(2, 3)", d.shares.without(2, 3), BAD);
        d.dueRefused(2 * FAR.length + 3, 0, 0);
        d = Document.says(sentence, "+1:!;");
        dueWithout(d, 0, 0, 0, 0);
        d = Document.says(sentence);
        d.due("without(0, 0) of nothing", d.shares.without(0, 0), BAD);
    }

    private static void withoutEach() {
        Desk none = Document.says("as if all had one (2)", "=a;=b;+3:5,4;+2:5,4;");
        dueSums(none, 5, 4);
        dueWithout(none, 0, 5, 5, 4);
        dueWithout(none, 1, 4, 4, 5);
        Desk last = Document.says("as if a PARTY had no VETO (what = 0)", "=a;=b;+2:5,4!;+3:5,4;");
        dueSums(last, 5, 4);
        dueWithout(last, 0, 4, 4, 5);
        dueWithout(last, 1, 4, 5, 4);
        Desk lastOfNone = Document.says("as if all had one (2)", "=a;=b;+2:5,4;+3:5,4;");
        dueWithout(lastOfNone, 0, 4, 4, 5);
        dueWithout(lastOfNone, 1, 5, 5, 4);
        Desk d = Document.says("as if nobody had one (1)", ALIKE);
        dueSums(d, 5, 3, 4);
        dueWithout(d, 1, 3, 4, 3);
        dueWithout(d, 2, 3, 3, 4);
        d.shares.takes(0);
        d.shares.vetoes(2);
        d.shares.takes(1);
        dueSums(d, 4, 5, 3);
        dueWithout(d, 2, 3, 3, 5);
        d.due("told(8): the VETOES stay as they are", d.shares.told(8), 2);
        d.due("foreseen(2)", d.shares.foreseen(2), 3);
    }

    private static void questionsLeaveNothing() {
        Desk d = Document.says("as things are NOW", ALIKE);
        d.shares.takes(1);
        String before = d.everything();
        long digest = d.shares.digest();
        for (int p = 0; p < 3; p++) {
            d.shares.foreseen(p);
            d.shares.sincere(p);
            for (int what = 0; what < 3; what++) {
                d.shares.without(p, what);
            }
            d.shares.taking(0, p);
        }
        d.shares.best();
        d.shares.against(2);
        d.shares.course(1);
        Desk.check("questions change nothing", d.everything(), before);
        d.due("digest()", d.shares.digest(), digest);
        d.due("told(9)", d.shares.told(9), 2);
    }

    // ---- helpers

    private static void dueAgainst(String sentence, String text, int... parties) {
        Desk d = Document.says(sentence, text);
        for (int k = 0; k < parties.length; k++) {
            d.due("against(" + k + ") of " + text, d.shares.against(k), parties[k]);
        }
    }

    private static void dueSums(Desk d, int... sums) {
        for (int p = 0; p < sums.length; p++) {
            d.due("foreseen(" + p + ")", d.shares.foreseen(p), sums[p]);
        }
    }

    private static void dueSincere(Desk d, int... sums) {
        for (int p = 0; p < sums.length; p++) {
            d.due("sincere(" + p + ")", d.shares.sincere(p), sums[p]);
        }
    }

    private static void dueWithout(Desk d, int p, int... sums) {
        for (int what = 0; what < sums.length; what++) {
            d.due("without(" + p + ", " + what + ")", d.shares.without(p, what), sums[what]);
        }
    }

    private static void dueCourse(Desk d, int... things) {
        for (int i = 0; i < things.length; i++) {
            d.due("course(" + i + ")", d.shares.course(i), things[i]);
        }
        d.due("course behind the last", d.shares.course(things.length), NONE);
        d.due("course(max)", d.shares.course(Integer.MAX_VALUE), NONE);
    }
}
