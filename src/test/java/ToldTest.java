/** Promises 24 to 26: back, told, digest. */
final class ToldTest {
    private static final String TEXT = "=a;=b;%2;+3:5,4!;+2:5,4!;";

    public static void main(String[] args) {
        backThroughAll();
        sixStates();
        whatIsNoState();
        told();
        digest();
        Desk.end();
    }

    private static void backThroughAll() {
        Desk d = Desk.of("24 back", TEXT);
        String[] before = new String[5];
        for (int n = 0; n < 5; n++) {
            before[n] = d.everything();
            doSomething(d, n);
        }
        for (int n = 4; n >= 0; n--) {
            d.due("back()", d.shares.back(), n + 1);
            Desk.check("24 back to " + n, d.everything(), before[n]);
        }
        d.due("back() to nothing", d.shares.back(), 0);
        d.due("told(4)", d.shares.told(4), 0);
        d.due("told(5)", d.shares.told(5), 0);
        d.due("back(), none", d.shares.back(), PostShares.NO);
        d.due("back(), none", d.shares.back(), PostShares.NO);
        d.dueRefused(0, 2, 0);
    }

    private static void doSomething(Desk d, int n) {
        switch (n) {
            case 0 -> d.due("takes(1)", d.shares.takes(1), 0);
            case 1 -> d.due("vetoes(1)", d.shares.vetoes(1), 1);
            case 2 -> d.due("rates(0, 1, 9)", d.shares.rates(0, 1, 9), 4);
            case 3 -> d.due("joins(0, 1)", d.shares.joins(0, 1), 1);
            default -> d.due("binds(0, 1)", d.shares.binds(0, 1), 1);
        }
    }

    private static void sixStates() {
        Desk d = Desk.of("24 six at most", TEXT);
        for (int v = 10; v < 20; v++) {
            d.shares.rates(0, 0, v);
            d.due("told(9)", d.shares.told(9), Math.min(6, v - 10 + 2));
        }
        for (int left = 5; left >= 0; left--) {
            d.due("back()", d.shares.back(), left);
            d.due("worth(0, 0)", d.shares.worth(0, 0), 13 + left);
        }
        d.due("back(), older ones are lost", d.shares.back(), PostShares.NO);
        d.due("worth(0, 0)", d.shares.worth(0, 0), 13);
        d.due("rates(0, 0, 50)", d.shares.rates(0, 0, 50), 13);
        d.due("back()", d.shares.back(), 0);
        d.due("worth(0, 0)", d.shares.worth(0, 0), 13);
    }

    private static void whatIsNoState() {
        Desk d = Desk.of("24 what is no state", TEXT);
        d.shares.rule(3);
        d.shares.rule(9);
        d.shares.rule(3);
        d.due("reads(x)", d.reads("=x"), -11);
        d.due("told(9)", d.shares.told(9), 2);
        d.due("back()", d.shares.back(), 1);
        d.due("told(6)", d.shares.told(6), 2);
        d.dueRefused(1, 1, 0);
        d.due("told(3), THE TEXT", d.shares.told(3), 2);
        d.due("reason(3), REASONS", d.shares.reason(3), 'x');
    }

    private static void told() {
        Desk d = Desk.of("25 told", TEXT);
        d.shares.type(-1);
        d.shares.back();
        d.due("back(), none", d.shares.back(), PostShares.NO);
        d.due("reads()", d.shares.reads(), 5);
        d.shares.takes(0);
        d.shares.vetoes(0);
        d.shares.vetoes(1);
        d.shares.takes(1);
        d.shares.lot(7, 7);
        int[] due = {2, 2, 0, 25, 2, 2, 2, 1, 1, 4};
        for (int what = 0; what < 10; what++) {
            d.due("told(" + what + ")", d.shares.told(what), due[what]);
        }
        d.due("told(-1)", d.shares.told(-1), PostShares.BAD);
        d.due("told(10)", d.shares.told(10), PostShares.BAD);
        d.due("told(max)", d.shares.told(Integer.MAX_VALUE), PostShares.BAD);
        d.due("told(0)", d.shares.told(0), 5);
    }

    private static void digest() {
        Desk d = Desk.of("26 digest", TEXT);
        d.shares.takes(0);
        d.shares.vetoes(1);
        d.shares.takes(0);
        int[] all = {
            0, 1, 0, 25, 2, 2, 2, 0, 1, 3,
            1, -1, -1, 1, 2, -1, -1, 0,
            3, 1, 0, 2, 0, 9, 5, 4, 9, 9,
            2, 0, 0, 0, 0, 9, 5, 4, 0, 0,
        };
        long h = 2269;
        for (int v : all) {
            h = 31 * h + v;
        }
        d.due("digest()", d.shares.digest(), h);
        d.due("digest() again", d.shares.digest(), h);
        d.dueRefused(0, 1, 0);
    }
}
