/** A PostShares under test: counts and prints every answer that is not the one that is due. */
final class Desk {
    final PostShares shares = new PostShares();
    private final String test;
    private static int checked = 0;
    private static int wrong = 0;

    Desk(String test) {
        this.test = test;
    }

    /** A desk that has read a text without a FAULT. */
    static Desk of(String test, String text) {
        Desk desk = new Desk(test);
        desk.types(text);
        check(test + ": the text " + text + " is read", desk.shares.reads() >= 0, true);
        return desk;
    }

    void types(String text) {
        for (int i = 0; i < text.length(); i++) {
            shares.type(text.charAt(i));
        }
    }

    /** The answer of reads() to a text, in place of the one before. */
    int reads(String text) {
        shares.clear();
        types(text);
        return shares.reads();
    }

    void due(String call, long got, long want) {
        check(test + ": " + call, got, want);
    }

    /** How often BAD, NO and FULL were answered so far. */
    void dueRefused(int bad, int no, int full) {
        due("told(0)", shares.told(0), bad);
        due("told(1)", shares.told(1), no);
        due("told(2)", shares.told(2), full);
    }

    /** Calls that must leave all but how often refused as it is are put between two of these. */
    String everything() {
        StringBuilder all = new StringBuilder();
        for (int what = 3; what < 10; what++) {
            all.append(shares.told(what)).append(' ');
        }
        for (int k = 0; k < shares.told(4); k++) {
            for (int what = 0; what < 4; what++) {
                all.append(shares.lot(k, what)).append(' ');
            }
        }
        for (int p = 0; p < shares.told(5); p++) {
            for (int what = 0; what < 6; what++) {
                all.append(shares.party(p, what)).append(' ');
            }
            for (int k = 0; k < shares.told(4); k++) {
                all.append(shares.worth(p, k)).append(' ');
            }
            all.append(shares.foreseen(p)).append(' ').append(shares.sincere(p)).append(' ');
        }
        for (int t = 0; t < 7; t++) {
            all.append(shares.turn(t)).append(' ').append(shares.course(t)).append(' ');
        }
        return all.toString();
    }

    static void check(String what, Object got, Object want) {
        checked++;
        if (!got.equals(want)) {
            wrong++;
            System.out.println(what + " answered " + got + ", due is " + want);
        }
    }

    static void end() {
        System.out.println(checked + " answers, " + wrong + " not as due");
        if (wrong != 0 || checked == 0) {
            System.exit(1);
        }
    }
}
