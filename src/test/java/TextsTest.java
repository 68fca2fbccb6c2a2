/** Promises 1 to 5: a new object; type, clear, reads, reason. */
final class TextsTest {
    public static void main(String[] args) {
        newObject();
        typeAndClear();
        readsTellsAnew();
        readsCountsItems();
        reasonsBeforeAndAfter();
        faultsOfSigns();
        faultsOfLots();
        faultsOfRules();
        faultsOfParties();
        faultsAtTheEnd();
        faultDoesNothing();
        Desk.end();
    }

    private static void newObject() {
        Desk d = new Desk("1 new");
        for (int what = 0; what < 10; what++) {
            d.due("told(" + what + ")", d.shares.told(what), 0);
        }
        for (int what = 0; what < 4; what++) {
            d.due("reason(" + what + ")", d.shares.reason(what), PostShares.NONE);
        }
        d.due("turn(0)", d.shares.turn(0), PostShares.NONE);
        d.due("best()", d.shares.best(), PostShares.NONE);
        d.due("course(0)", d.shares.course(0), PostShares.NONE);
        long h = 2269;
        for (int i = 0; i < 10; i++) {
            h = 31 * h;
        }
        d.due("digest()", d.shares.digest(), h);
        d.due("back()", d.shares.back(), PostShares.NO);
        d.due("lot(0, 0)", d.shares.lot(0, 0), PostShares.BAD);
        d.due("party(0, 0)", d.shares.party(0, 0), PostShares.BAD);
        d.due("takes(0)", d.shares.takes(0), PostShares.BAD);
        d.due("foreseen(0)", d.shares.foreseen(0), PostShares.BAD);
        d.dueRefused(4, 1, 0);
    }

    private static void typeAndClear() {
        Desk d = new Desk("2, 3 type, clear");
        d.due("type(-1)", d.shares.type(-1), PostShares.BAD);
        d.due("type(128)", d.shares.type(128), PostShares.BAD);
        d.due("type(min)", d.shares.type(Integer.MIN_VALUE), PostShares.BAD);
        d.due("type(0)", d.shares.type(0), 1);
        d.due("type(127)", d.shares.type(127), 2);
        for (int n = 3; n <= 160; n++) {
            d.due("type(65)", d.shares.type(65), n);
        }
        d.due("type(65), full", d.shares.type(65), PostShares.FULL);
        d.due("type(200), full", d.shares.type(200), PostShares.BAD);
        d.due("told(3)", d.shares.told(3), 160);
        d.dueRefused(4, 0, 1);
        d.due("told(9)", d.shares.told(9), 0);
        d.due("clear()", d.shares.clear(), 160);
        d.due("told(3)", d.shares.told(3), 0);
        d.due("clear()", d.shares.clear(), 0);
        d.due("type(61)", d.shares.type(61), 1);
    }

    private static void readsTellsAnew() {
        Desk d = Desk.of("4 reads", "%3;=al;=c;%1;+999:0,99!;+1:07,5;");
        d.due("told(3)", d.shares.told(3), 32);
        d.due("told(4)", d.shares.told(4), 2);
        d.due("told(5)", d.shares.told(5), 2);
        d.due("told(6), the last of several", d.shares.told(6), 1);
        d.due("told(8)", d.shares.told(8), 1);
        d.due("told(9)", d.shares.told(9), 1);
        d.due("lot(0, 0)", d.shares.lot(0, 0), 1 + (1 << 11));
        d.due("lot(1, 0)", d.shares.lot(1, 0), 4);
        d.due("party(0, 0)", d.shares.party(0, 0), 999);
        d.due("party(0, 1)", d.shares.party(0, 1), 1);
        d.due("worth(0, 0)", d.shares.worth(0, 0), 0);
        d.due("worth(0, 1)", d.shares.worth(0, 1), 99);
        d.due("party(1, 0)", d.shares.party(1, 0), 1);
        d.due("party(1, 1)", d.shares.party(1, 1), 0);
        d.due("worth(1, 0)", d.shares.worth(1, 0), 7);
        d.due("worth(1, 1)", d.shares.worth(1, 1), 5);
        d.due("takes(0)", d.shares.takes(0), 0);
        d.due("reads() again", d.shares.reads(), 6);
        d.due("told(7), nothing is TAKEN", d.shares.told(7), 0);
        d.due("lot(0, 1)", d.shares.lot(0, 1), PostShares.NONE);
        d.due("told(9)", d.shares.told(9), 3);
        d.due("told(3), the text stays", d.shares.told(3), 32);
        d.due("reads(=b;)", d.reads("=b;"), 1);
        d.due("told(6), none told", d.shares.told(6), 0);
        d.due("told(5)", d.shares.told(5), 0);
        d.due("told(8)", d.shares.told(8), 0);
    }

    private static void readsCountsItems() {
        Desk d = new Desk("4 reads, items");
        d.due("no items", d.reads(""), 0);
        d.due("told(9)", d.shares.told(9), 1);
        d.due("a party without lots", d.reads("+5:;"), 1);
        d.due("told(5)", d.shares.told(5), 1);
        d.due("turn(0)", d.shares.turn(0), PostShares.NONE);
        d.due("a party without lots, a veto", d.reads("+5:!;"), 1);
        d.due("told(8)", d.shares.told(8), 1);
        d.due("all posts in one", d.reads("=lkjihgfedcba;"), 1);
        d.due("lot(0, 0)", d.shares.lot(0, 0), 4095);
        d.due("six lots, four parties", d.reads("=a;=b;=c;=d;=e;=f;+1:0,0,0,0,0,0;+1:0,0,0,0,0,0;"
            + "+1:0,0,0,0,0,0;+999:99,99,99,99,99,99!;%4;"), 11);
        d.due("numbers of 1 to 3 figures", d.reads("%4;%03;%002;"), 3);
        d.due("told(6)", d.shares.told(6), 2);
        d.due("rules alone", d.reads("%0;%1;%2;%3;%4;"), 5);
        d.due("told(6)", d.shares.told(6), 4);
        d.due("nothing told", d.reads(""), 0);
        d.due("told(6)", d.shares.told(6), 0);
    }

    private static void reasonsBeforeAndAfter() {
        Desk d = new Desk("5 reason");
        d.due("reads(=a;)", d.reads("=a;"), 1);
        d.due("reason(0)", d.shares.reason(0), PostShares.NONE);
        d.due("reason(-1)", d.shares.reason(-1), PostShares.BAD);
        d.due("reason(4)", d.shares.reason(4), PostShares.BAD);
        d.dueRefused(2, 0, 0);
        fault(d, "=a;=bb;", 5, 1, 1, 1, 'b');
        d.dueRefused(2, 0, 0);
        d.due("reads(=c;)", d.reads("=c;"), 1);
        dueReasons(d, "stay", 1, 1, 1, 'b');
        d.due("back()", d.shares.back(), 1);
        dueReasons(d, "stay", 1, 1, 1, 'b');
        fault(d, "x", 0, 0, 0, 0, 'x');
    }

    private static void faultsOfSigns() {
        fault(";", 0, 0, 0, 0, ';');
        fault(" =a;", 0, 0, 0, 0, ' ');
        fault("=a; ", 3, 1, 0, 0, ' ');
        fault("=a;;", 3, 1, 0, 0, ';');
        fault("=a;=b;=c;=d;=e;=f;=a;", 18, 6, 0, 0, '=');
        fault("+1:;+1:;+1:;+1:;+", 16, 4, 0, 0, '+');
        fault("=a;%1;+1:1;%2;=b;", 14, 4, 0, 0, '=');
        fault("\0", 0, 0, 0, 0, 0);
    }

    private static void faultsOfLots() {
        fault("=;", 1, 0, 1, 0, ';');
        fault("=m;", 1, 0, 1, 0, 'm');
        fault("=A;", 1, 0, 1, 0, 'A');
        fault("=`;", 1, 0, 1, 0, '`');
        fault("=abca;", 4, 0, 1, 3, 'a');
        fault("=abc;=dc;", 7, 1, 1, 1, 'c');
        fault("=am;", 2, 0, 5, 0, 'm');
        fault("=a`;", 2, 0, 5, 0, '`');
        fault("=a,b;", 2, 0, 5, 0, ',');
        fault("=a=b;", 2, 0, 5, 0, '=');
        fault("=abcdefghijkla", 13, 0, 1, 12, 'a');
        fault("=abcdefghijkl;=a;", 15, 1, 1, 0, 'a');
        fault("=a!;", 2, 0, 5, 0, '!');
    }

    private static void faultsOfRules() {
        fault("%;", 1, 0, 2, 0, ';');
        fault("%5;", 1, 0, 2, 0, '5');
        fault("%a;", 1, 0, 2, 0, 'a');
        fault("%/;", 1, 0, 2, 0, '/');
        fault("%12;", 2, 0, 5, 0, '2');
        fault("%10;", 2, 0, 5, 0, '0');
        fault("%05;", 2, 0, 5, 0, '5');
        fault("%005;", 3, 0, 5, 0, '5');
        fault("%0000;", 4, 0, 5, 0, '0');
        fault("%041;", 3, 0, 5, 0, '1');
        fault("%4!;", 2, 0, 5, 0, '!');
    }

    private static void faultsOfParties() {
        fault("+0:;", 1, 0, 3, 0, '0');
        fault("+:;", 1, 0, 3, 0, ':');
        fault("+1;", 2, 0, 3, 0, ';');
        fault("+1000:;", 4, 0, 3, 0, '0');
        fault("+10,;", 3, 0, 3, 0, ',');
        fault("+1:0;", 3, 0, 5, 0, '0');
        fault("+1:,;", 3, 0, 5, 0, ',');
        fault("+1:!!;", 4, 0, 5, 0, '!');
        fault("=a;+1:;", 6, 1, 4, 0, ';');
        fault("=a;+1:!;", 6, 1, 4, 0, '!');
        fault("=a;+1:,;", 6, 1, 4, 0, ',');
        fault("=a;+1:12,;", 8, 1, 5, 0, ',');
        fault("=a;+1:123;", 8, 1, 5, 0, '3');
        fault("=a;+1:000;", 8, 1, 5, 0, '0');
        fault("=a;+1:1x", 7, 1, 5, 0, 'x');
        fault("=a;=b;+1:1;", 10, 2, 4, 1, ';');
        fault("=a;=b;+1:1!;", 10, 2, 4, 1, '!');
        fault("=a;=b;+1:123,4;", 11, 2, 4, 1, '3');
        fault("=a;=b;+1:1,;", 11, 2, 4, 1, ';');
        fault("=a;=b;+1:1,,", 11, 2, 4, 1, ',');
        fault("=a;=b;+1:,1", 9, 2, 4, 0, ',');
        fault("=a;=b;+1:1,2,", 12, 2, 5, 0, ',');
        fault("=a;=b;+1:1,2;+1:1,2!=", 20, 3, 5, 0, '=');
    }

    private static void faultsAtTheEnd() {
        fault("=", 1, 0, 1, 0, PostShares.NONE);
        fault("=a", 2, 0, 5, 0, PostShares.NONE);
        fault("%", 1, 0, 2, 0, PostShares.NONE);
        fault("%1", 2, 0, 5, 0, PostShares.NONE);
        fault("+", 1, 0, 3, 0, PostShares.NONE);
        fault("+12", 3, 0, 3, 0, PostShares.NONE);
        fault("+123", 4, 0, 3, 0, PostShares.NONE);
        fault("+12:", 4, 0, 5, 0, PostShares.NONE);
        fault("=a;+1:", 6, 1, 4, 0, PostShares.NONE);
        fault("=a;+1:1", 7, 1, 5, 0, PostShares.NONE);
        fault("=a;=b;+1:1", 10, 2, 4, 1, PostShares.NONE);
        fault("=a;=b;+1:1,", 11, 2, 4, 1, PostShares.NONE);
        fault("=a;=b;+1:1,2!", 13, 2, 5, 0, PostShares.NONE);
    }

    private static void faultDoesNothing() {
        Desk d = Desk.of("4 a fault does nothing", "=a;=b;%2;+5:1,2!;+4:2,1!;");
        d.due("takes(0)", d.shares.takes(0), 0);
        d.shares.clear();
        d.types("=c;%3;+7:9;+6:8!;x");
        String before = d.everything();
        d.due("reads()", d.shares.reads(), -27);
        Desk.check("4 a fault changes nothing", d.everything(), before);
        d.dueRefused(0, 0, 0);
        d.due("vetoes(1): what was TAKEN last stays so", d.shares.vetoes(1), 0);
        d.due("back()", d.shares.back(), 2);
    }

    /** On a desk of its own: an object is used for 512 calls at most. */
    private static void fault(String text, int place, int item, int part, int which, int stands) {
        fault(new Desk("4, 5 faults"), text, place, item, part, which, stands);
    }

    private static void fault(Desk d, String text, int place, int item, int part, int which, int stands) {
        d.due("reads(" + text + ")", d.reads(text), -10 - place);
        dueReasons(d, text, item, part, which, stands);
    }

    private static void dueReasons(Desk d, String text, int item, int part, int which, int stands) {
        d.due("reason(0) of " + text, d.shares.reason(0), item);
        d.due("reason(1) of " + text, d.shares.reason(1), part);
        d.due("reason(2) of " + text, d.shares.reason(2), which);
        d.due("reason(3) of " + text, d.shares.reason(3), stands);
    }
}
