/** The document's sentences on THE TEXT, its FAULTS and REASONS, and promises 2 to 5, one test for each. */
final class TextBoundsTest {
    private static final String FIGURES = "0123456789";
    private static final String SIX_LOTS = "=a;=b;=c;=d;=e;=f;";
    private static final String FOUR_PARTIES = "+1:;+1:;+1:;+1:;";
    private static final int NONE = PostShares.NONE;

    public static void main(String[] args) {
        bytesAtMost();
        itemsEnded();
        noBlanks();
        lotItems();
        ruleItems();
        partyItems();
        vetoSign();
        figuresOfNumbers();
        lotsAheadOfParties();
        firstByteThatCanNotStand();
        everyByteOfSigns();
        everyByteOfLotsAndRules();
        everyByteOfParties();
        postThatALotHas();
        signsTooMany();
        lotBehindParty();
        firstFigureZero();
        figureTooMany();
        worthIsWanting();
        commaWhereNoneIs();
        endsTooEarly();
        noItems();
        faultDoesNothing();
        reasonOfItem();
        reasonOfPart();
        colonOfStrength();
        commaOfWorth();
        behindAPost();
        reasonOfWhich();
        reasonOfByte();
        typeBounds();
        clearBounds();
        readsBounds();
        reasonBounds();
        Desk.end();
    }

    // ---- what a text is

    private static void bytesAtMost() {
        String sentence = "THE TEXT (160 bytes at most)";
        String full = "=ab;" + "%0;".repeat(51) + "%3;";
        Desk d = Document.says(sentence);
        d.due("reads() of 160 bytes", d.reads(full), 53);
        d.due("told(6), by its last ITEM", d.shares.told(6), 3);
        d.due("type(), the 161st byte", d.shares.type('x'), PostShares.FULL);
        d.due("reads(): it is not there", d.shares.reads(), 53);
        d = Document.says(sentence);
        d.due("reads() of 160 bytes without an end", d.reads("%0;".repeat(53) + "%"), -170);
        dueReasons(d, "a FAULT behind 160 bytes", 53, 2, 0, NONE);
        d = Document.says(sentence);
        d.due("reads() of 160 bytes, the last one wrong", d.reads("%0;".repeat(53) + "x"), -169);
        dueReasons(d, "a FAULT in the 160th byte", 53, 0, 0, 'x');
    }

    private static void itemsEnded() {
        String sentence = "tells all anew by ITEMS, each ended by ; (no blanks)";
        fault(sentence, "=a=b;", 2, 0, 5, 0, '=');
        fault(sentence, "=a;%1+2:3;", 5, 1, 5, 0, '+');
        fault(sentence, "=a;+2:3+2:3;", 7, 1, 5, 0, '+');
        fault(sentence, "=a;+2:3!%1;", 8, 1, 5, 0, '%');
        fault(sentence, "=a;;", 3, 1, 0, 0, ';');
        Desk d = Document.says(sentence, "=a;=b;+2:3,4!;");
        d.due("takes(0)", d.shares.takes(0), 0);
        d.due("reads(), all anew", d.reads("%2;"), 1);
        d.due("told(4)", d.shares.told(4), 0);
        d.due("told(5)", d.shares.told(5), 0);
        d.due("told(6)", d.shares.told(6), 2);
        d.due("told(7)", d.shares.told(7), 0);
        d.due("told(8)", d.shares.told(8), 0);
    }

    private static void noBlanks() {
        String sentence = "(no blanks)";
        String text = "=ab;%4;+12:34!;";
        int[][] reasons = {
            {0, 0, 0}, {0, 1, 0}, {0, 5, 0}, {0, 5, 0}, {1, 0, 0}, {1, 2, 0}, {1, 5, 0}, {2, 0, 0},
            {2, 3, 0}, {2, 3, 0}, {2, 3, 0}, {2, 4, 0}, {2, 5, 0}, {2, 5, 0}, {2, 5, 0}, {3, 0, 0},
        };
        for (int at = 0; at <= text.length(); at++) {
            String spoilt = text.substring(0, at) + " " + text.substring(at);
            fault(sentence, spoilt, at, reasons[at][0], reasons[at][1], reasons[at][2], ' ');
        }
    }

    private static void lotItems() {
        String sentence = "=ab the next LOT, its POSTS";
        Desk d = Document.says(sentence, "=l;=kjihgfedcb;=a;");
        d.due("lot(0, 0)", d.shares.lot(0, 0), 1 << 11);
        d.due("lot(1, 0)", d.shares.lot(1, 0), (1 << 11) - 2);
        d.due("lot(2, 0)", d.shares.lot(2, 0), 1);
        d = Document.says(sentence, "=lkjihgfedcba;");
        d.due("lot(0, 0), all POSTS", d.shares.lot(0, 0), 4095);
        fault("each of one POST or more", "=;", 1, 0, 1, 0, ';');
        fault("each of one POST or more", "=", 1, 0, 1, 0, NONE);
    }

    private static void ruleItems() {
        String sentence = "%n RULE (0, if none is told; of several the last)";
        for (int n = 0; n <= 4; n++) {
            Desk d = Document.says(sentence, "%" + n + ";");
            d.due("told(6)", d.shares.told(6), n);
        }
        fault(sentence, "%5;", 1, 0, 2, 0, '5');
        fault(sentence, "%9;", 1, 0, 2, 0, '9');
        Desk d = Document.says(sentence, "%4;");
        d.due("reads(=a;)", d.reads("=a;"), 1);
        d.due("told(6), none is told", d.shares.told(6), 0);
        d.due("reads() of several", d.reads("%1;=a;%4;+1:1;%2;"), 5);
        d.due("told(6), the last", d.shares.told(6), 2);
        d.due("reads() of several", d.reads("%2;%0;"), 2);
        d.due("told(6), the last", d.shares.told(6), 0);
    }

    private static void partyItems() {
        String sentence = "+S:W,W,.. the next PARTY, STRENGTH and WORTHS of LOTS 0, 1, .. (just as many as LOTS are told by then)";
        String worths = "";
        for (int lots = 0; lots <= 6; lots++) {
            String text = SIX_LOTS.substring(0, 3 * lots) + "+5:" + worths;
            Desk d = Document.says(sentence, text + ";");
            for (int k = 0; k < lots; k++) {
                d.due("worth(0, " + k + ")", d.shares.worth(0, k), k + 1);
            }
            d.due("worth() of no LOT", d.shares.worth(0, lots), PostShares.BAD);
            fault(sentence, text + ",9;", text.length(), lots, 5, 0, ',');
            if (lots > 0) {
                String fewer = text.substring(0, text.length() - (lots == 1 ? 1 : 2));
                fault(sentence, fewer + ";", fewer.length(), lots, 4, lots - 1, ';');
            }
            worths = worths + (lots == 0 ? "" : ",") + (lots + 1);
        }
    }

    private static void vetoSign() {
        String sentence = "and perhaps ! behind them: it has a VETO";
        Desk d = Document.says(sentence, "=a;+1:1;+1:1!;+1:1;+1:1!;");
        for (int p = 0; p < 4; p++) {
            d.due("party(" + p + ", 1)", d.shares.party(p, 1), p % 2);
        }
        d = Document.says(sentence, "+1:!;+1:;");
        d.due("party(0, 1), without LOTS", d.shares.party(0, 1), 1);
        d.due("party(1, 1), without LOTS", d.shares.party(1, 1), 0);
        fault(sentence, "=a;+1:1!!;", 8, 1, 5, 0, '!');
        fault(sentence, "=a;+1:!1;", 6, 1, 4, 0, '!');
        fault(sentence, "=a;+1!:1;", 5, 1, 3, 0, '!');
        fault(sentence, "=a!;", 2, 0, 5, 0, '!');
        fault(sentence, "%1!;", 2, 0, 5, 0, '!');
    }

    private static void figuresOfNumbers() {
        String sentence = "Numbers have 1 to 3 figures (a WORTH 2 at most).";
        int[] strengths = {1, 9, 10, 99, 100, 999};
        for (int strength : strengths) {
            Desk d = Document.says(sentence, "+" + strength + ":;");
            d.due("party(0, 0)", d.shares.party(0, 0), strength);
        }
        String[] worths = {"0", "9", "00", "05", "10", "99"};
        for (String worth : worths) {
            Desk d = Document.says(sentence, "=a;+1:" + worth + ";");
            d.due("worth(0, 0) of " + worth, d.shares.worth(0, 0), Integer.parseInt(worth));
        }
        String[] rules = {"0", "4", "00", "04", "000", "003"};
        for (String rule : rules) {
            Desk d = Document.says(sentence, "%" + rule + ";");
            d.due("told(6) of " + rule, d.shares.told(6), Integer.parseInt(rule));
        }
        fault(sentence, "+:;", 1, 0, 3, 0, ':');
        fault(sentence, "=a;+1:;", 6, 1, 4, 0, ';');
        fault(sentence, "%;", 1, 0, 2, 0, ';');
    }

    private static void lotsAheadOfParties() {
        String sentence = "LOTS are told ahead of all PARTIES.";
        fault(sentence, "+1:;=a;", 4, 1, 0, 0, '=');
        fault(sentence, "=a;+1:1;%3;=b;", 11, 3, 0, 0, '=');
        Desk d = Document.says(sentence, "%1;=a;%2;=b;%3;+1:1,2;%4;+2:3,4;%0;");
        d.due("told(4): RULE may stand anywhere", d.shares.told(4), 2);
    }

    // ---- what can stand where

    private static void firstByteThatCanNotStand() {
        String sentence = "FAULT: the place of the first byte that can not stand there";
        fault(sentence, "x", 0, 0, 0, 0, 'x');
        fault(sentence, "=a;x=a;+0", 3, 1, 0, 0, 'x');
        fault(sentence, "=aa;=b;=b;", 2, 0, 1, 1, 'a');
        fault(sentence, "=a;+1:123;+0:;", 8, 1, 5, 0, '3');
    }

    private static void everyByteOfSigns() {
        stands("", "=%+", 0, 0, 0);
        stands("=a;", "=%+", 1, 0, 0);
        stands("%0;", "=%+", 1, 0, 0);
        stands("=a;=b;=c;=d;=e;", "=%+", 5, 0, 0);
        stands(SIX_LOTS, "%+", 6, 0, 0);
        stands("+1:;", "%+", 1, 0, 0);
        stands("+1:;+1:;+1:;", "%+", 3, 0, 0);
        stands(FOUR_PARTIES, "%", 4, 0, 0);
        stands(FOUR_PARTIES + "%1;", "%", 5, 0, 0);
    }

    private static void everyByteOfLotsAndRules() {
        stands("=", "abcdefghijkl", 0, 1, 0);
        stands("=c;=", "abdefghijkl", 1, 1, 0);
        standsBut("c", "=c", "abdefghijkl;", 0, 5, 0);
        standsBut("ac", "=c;=a", "bdefghijkl;", 1, 5, 0);
        standsBut("abcdefghijkl", "=abcdefghijkl", ";", 0, 5, 0);
        stands("%", "01234", 0, 2, 0);
        stands("%1", ";", 0, 5, 0);
        stands("%4", ";", 0, 5, 0);
        stands("%0", "01234;", 0, 5, 0);
        stands("%00", "01234;", 0, 5, 0);
        stands("%01", ";", 0, 5, 0);
        stands("%000", ";", 0, 5, 0);
    }

    private static void everyByteOfParties() {
        stands("+", "123456789", 0, 3, 0);
        stands("+1", FIGURES + ":", 0, 3, 0);
        stands("+99", FIGURES + ":", 0, 3, 0);
        stands("+123", ":", 0, 3, 0);
        stands("+1:", "!;", 0, 5, 0);
        stands("+1:!", ";", 0, 5, 0);
        stands("=a;+1:", FIGURES, 1, 4, 0);
        stands("=a;+1:0", FIGURES + "!;", 1, 5, 0);
        stands("=a;+1:12", "!;", 1, 5, 0);
        stands("=a;+1:12!", ";", 1, 5, 0);
        stands("=a;=b;+1:", FIGURES, 2, 4, 0);
        stands("=a;=b;+1:9", FIGURES + ",", 2, 4, 1);
        stands("=a;=b;+1:99", ",", 2, 4, 1);
        stands("=a;=b;+1:99,", FIGURES, 2, 4, 1);
        stands("=a;=b;+1:99,0", FIGURES + "!;", 2, 5, 0);
        stands(SIX_LOTS + "+1:1,2,3,4,5", FIGURES + ",", 6, 4, 5);
        stands(SIX_LOTS + "+1:1,2,3,4,5,", FIGURES, 6, 4, 5);
        stands(SIX_LOTS + "+1:1,2,3,4,5,66", "!;", 6, 5, 0);
    }

    // ---- the FAULTS that are named

    private static void postThatALotHas() {
        String sentence = "a POST that a LOT has";
        fault(sentence, "=aa;", 2, 0, 1, 1, 'a');
        fault(sentence, "=abcdefghijkll;", 13, 0, 1, 12, 'l');
        fault(sentence, "=l;=l;", 4, 1, 1, 0, 'l');
        fault(sentence, "=a;=b;=c;=d;=e;=fgb;", 18, 5, 1, 2, 'b');
        fault("each POST of one LOT at most", "=abcdefghijkl;=a;", 15, 1, 1, 0, 'a');
    }

    private static void signsTooMany() {
        String sentence = "a 7th LOT's or a 5th PARTY's sign";
        fault(sentence, SIX_LOTS + "=g;", 18, 6, 0, 0, '=');
        fault(sentence, "%1;" + SIX_LOTS + "=", 21, 7, 0, 0, '=');
        fault(sentence, FOUR_PARTIES + "+1:;", 16, 4, 0, 0, '+');
        fault(sentence, "=a;+1:1;+1:1;%1;+1:1;+1:1;+", 26, 6, 0, 0, '+');
    }

    private static void lotBehindParty() {
        String sentence = "a LOT's sign behind a PARTY";
        fault(sentence, "=a;+1:1;=b;", 8, 2, 0, 0, '=');
        fault(sentence, "+1:;=", 4, 1, 0, 0, '=');
    }

    private static void firstFigureZero() {
        String sentence = "a first figure 0 of a STRENGTH";
        fault(sentence, "+0:;", 1, 0, 3, 0, '0');
        fault(sentence, "+01:;", 1, 0, 3, 0, '0');
        fault(sentence, "=a;+7:1;+000:1;", 9, 2, 3, 0, '0');
        Desk d = Document.says(sentence, "=a;+100:00;");
        d.due("party(0, 0): another figure may be 0", d.shares.party(0, 0), 100);
    }

    private static void figureTooMany() {
        String sentence = "a figure too many";
        fault(sentence, "+1000:;", 4, 0, 3, 0, '0');
        fault(sentence, "+9999:;", 4, 0, 3, 0, '9');
        fault(sentence, "=a;+1:100;", 8, 1, 5, 0, '0');
        fault(sentence, "=a;+1:000;", 8, 1, 5, 0, '0');
        fault(sentence, "%11;", 2, 0, 5, 0, '1');
        fault(sentence, "%44;", 2, 0, 5, 0, '4');
        fault(sentence, "%0000;", 4, 0, 5, 0, '0');
        String stands = "(a figure too many stands where what is due behind the number should)";
        fault(stands, "=a;=b;+1:100,2;", 11, 2, 4, 1, '0');
        fault(stands, "=a;=b;+1:1,100;", 13, 2, 5, 0, '0');
        fault(stands, "=a;=b;=c;+1:1,100,3;", 16, 3, 4, 2, '0');
        fault(stands, "+1234:;", 4, 0, 3, 0, '4');
        fault(stands, "%31;", 2, 0, 5, 0, '1');
    }

    private static void worthIsWanting() {
        String sentence = "a ; or ! where a WORTH is wanting";
        fault(sentence, "=a;+1:;", 6, 1, 4, 0, ';');
        fault(sentence, "=a;+1:!;", 6, 1, 4, 0, '!');
        fault(sentence, "=a;=b;+1:1;", 10, 2, 4, 1, ';');
        fault(sentence, "=a;=b;+1:12!;", 11, 2, 4, 1, '!');
        fault(sentence, "=a;=b;+1:1,;", 11, 2, 4, 1, ';');
        fault(sentence, "=a;=b;+1:1,!", 11, 2, 4, 1, '!');
        fault(sentence, SIX_LOTS + "+1:1,2,3,4,5;", 30, 6, 4, 5, ';');
    }

    private static void commaWhereNoneIs() {
        String sentence = "a , where none is";
        fault(sentence, "+1:,;", 3, 0, 5, 0, ',');
        fault(sentence, "=a;+1:1,;", 7, 1, 5, 0, ',');
        fault(sentence, "=a;+1:12,3;", 8, 1, 5, 0, ',');
        fault(sentence, "=a;=b;+1:1,2,3;", 12, 2, 5, 0, ',');
        fault(sentence, SIX_LOTS + "+1:1,2,3,4,5,6,", 32, 6, 5, 0, ',');
    }

    private static void endsTooEarly() {
        String sentence = "the TEXT's length, if it ends too early";
        String text = "=ab;=c;%4;+99:1,22!;";
        String parts = ".155.15.25.333444555.";
        for (int length = 0; length <= text.length(); length++) {
            String cut = text.substring(0, length);
            int items = cut.replaceAll("[^;]", "").length();
            if (parts.charAt(length) == '.') {
                Desk d = Document.says(sentence);
                d.due("reads(" + cut + ")", d.reads(cut), items);
            } else {
                int which = length == 15 || length == 16 ? 1 : 0;
                fault(sentence, cut, length, items, parts.charAt(length) - '0', which, NONE);
            }
        }
    }

    private static void noItems() {
        String sentence = "(A text without ITEMS has none.)";
        Desk d = Document.says(sentence);
        d.due("reads() of nothing", d.shares.reads(), 0);
        d.due("reason(0)", d.shares.reason(0), NONE);
        d.due("told(9)", d.shares.told(9), 1);
        d = Document.says(sentence, "=a;+1:1!;%3;");
        d.due("reads() of nothing", d.reads(""), 0);
        for (int what = 3; what < 9; what++) {
            d.due("told(" + what + ")", d.shares.told(what), 0);
        }
    }

    private static void faultDoesNothing() {
        String sentence = "With a FAULT nothing is done, but REASONS are told";
        String[] faults = {"=c;%3;+7:9;x", "=c;%3;+7:9!", "%3;=c;=d;=e;=f;=g;=h;=i;", "=d;+9:99!;+9:99!;+9:99!;+9:99!;+"};
        for (String text : faults) {
            Desk d = Document.says(sentence, "=a;=b;%2;+5:1,2!;+4:2,1!;");
            d.due("takes(0)", d.shares.takes(0), 0);
            d.shares.clear();
            d.types(text);
            String before = d.everything();
            d.due("reads(" + text + ")", d.shares.reads() <= -10 ? 1 : 0, 1);
            Desk.check(sentence + ": " + text, d.everything(), before);
            d.due("reason(0) is told", d.shares.reason(0) == NONE ? 1 : 0, 0);
            d.due("vetoes(1): what was TAKEN last stays so", d.shares.vetoes(1), 0);
            d.due("back()", d.shares.back(), 2);
        }
        Desk d = Document.says("By a FAULT nothing counts.");
        d.due("reads(x)", d.reads("x"), -10);
        d.due("reads() again", d.shares.reads(), -10);
        d.dueRefused(0, 0, 0);
        d.due("told(9)", d.shares.told(9), 0);
    }

    // ---- REASONS

    private static void reasonOfItem() {
        String sentence = "0 the ITEM's number (0 on)";
        fault(sentence, "x", 0, 0, 0, 0, 'x');
        fault(sentence, "=a;x", 3, 1, 0, 0, 'x');
        fault(sentence, "=a;%0;%1;+1:2;x", 14, 4, 0, 0, 'x');
        fault(sentence, "=a;%0;%1;+1:2", 13, 3, 5, 0, NONE);
        fault(sentence, "%0;".repeat(52) + "%0x", 158, 52, 5, 0, 'x');
    }

    private static void reasonOfPart() {
        String sentence = "1 which part of it: 0 its sign, 1 POSTS, 2 RULE, 3 STRENGTH, 4 a WORTH, 5 its end ( ! and ; )";
        fault(sentence, "=a;?", 3, 1, 0, 0, '?');
        fault(sentence, "=a;=?", 4, 1, 1, 0, '?');
        fault(sentence, "=a;%?", 4, 1, 2, 0, '?');
        fault(sentence, "=a;+?", 4, 1, 3, 0, '?');
        fault(sentence, "=a;+1:?", 6, 1, 4, 0, '?');
        fault(sentence, "=a;+1:1?", 7, 1, 5, 0, '?');
        fault(sentence, "=a;+1:1!?", 8, 1, 5, 0, '?');
        fault(sentence, "=a?", 2, 0, 5, 0, '?');
        fault(sentence, "%0?", 2, 0, 5, 0, '?');
    }

    private static void colonOfStrength() {
        String sentence = "with : of STRENGTH";
        fault(sentence, "+1;", 2, 0, 3, 0, ';');
        fault(sentence, "+12,", 3, 0, 3, 0, ',');
        fault(sentence, "+123!", 4, 0, 3, 0, '!');
        fault(sentence, "+123", 4, 0, 3, 0, NONE);
        fault(sentence, "+:", 1, 0, 3, 0, ':');
        fault(sentence, "=a;+1::", 6, 1, 4, 0, ':');
    }

    private static void commaOfWorth() {
        String sentence = "each , of the WORTH that should stand behind it";
        fault(sentence, "=a;=b;=c;+1:1", 13, 3, 4, 1, NONE);
        fault(sentence, "=a;=b;=c;+1:1:", 13, 3, 4, 1, ':');
        fault(sentence, "=a;=b;=c;+1:1,2", 15, 3, 4, 2, NONE);
        fault(sentence, "=a;=b;=c;+1:1,22+", 16, 3, 4, 2, '+');
        fault(sentence, "=a;=b;=c;+1:1,,", 14, 3, 4, 1, ',');
        fault(sentence, "=a;=b;=c;+1:,", 12, 3, 4, 0, ',');
    }

    private static void behindAPost() {
        String sentence = "and behind a POST all but letters a .. l of the end";
        fault(sentence, "=am;", 2, 0, 5, 0, 'm');
        fault(sentence, "=a`;", 2, 0, 5, 0, '`');
        fault(sentence, "=aL;", 2, 0, 5, 0, 'L');
        fault(sentence, "=ab=", 3, 0, 5, 0, '=');
        fault(sentence, "=ab", 3, 0, 5, 0, NONE);
        fault(sentence, "=aba", 3, 0, 1, 2, 'a');
        fault(sentence, "=m", 1, 0, 1, 0, 'm');
        fault(sentence, "=`", 1, 0, 1, 0, '`');
    }

    private static void reasonOfWhich() {
        String sentence = "2 which of these parts of the ITEM (0 on; a sign, RULE, STRENGTH, end: 0)";
        fault(sentence, "=aba;", 3, 0, 1, 2, 'a');
        fault(sentence, "=ab;=cdb;", 7, 1, 1, 2, 'b');
        fault(sentence, "=a;=b;=c;+1:1,2,x", 16, 3, 4, 2, 'x');
        fault(sentence, "=a;=b;=c;+1:1,2,3;+1:x", 21, 4, 4, 0, 'x');
        fault(sentence, "=a;=b;=c;+1:1,2,3;x", 18, 4, 0, 0, 'x');
        fault(sentence, "=a;=b;=c;%0;%x", 13, 4, 2, 0, 'x');
        fault(sentence, "=a;=b;=c;+1:1,2,3;+x", 19, 4, 3, 0, 'x');
        fault(sentence, "=a;=b;=c;+1:1,2,3x", 17, 3, 5, 0, 'x');
        fault(sentence, "=abc;=defx", 9, 1, 5, 0, 'x');
    }

    private static void reasonOfByte() {
        String sentence = "3 the byte that stands there (NONE: the end)";
        fault(sentence, "\0", 0, 0, 0, 0, 0);
        fault(sentence, "\177", 0, 0, 0, 0, 127);
        fault(sentence, "=a;=\0", 4, 1, 1, 0, 0);
        fault(sentence, "=a;=", 4, 1, 1, 0, NONE);
    }

    // ---- promises 2 to 5

    private static void typeBounds() {
        Desk d = Document.says("A byte (0 .. 127) comes behind THE TEXT: how many it has.");
        d.due("type(0)", d.shares.type(0), 1);
        d.due("type(127)", d.shares.type(127), 2);
        int[] wrong = {-1, 128, 255, Integer.MAX_VALUE, Integer.MIN_VALUE};
        for (int c : wrong) {
            d.due("type(" + c + ")", d.shares.type(c), PostShares.BAD);
        }
        d.due("told(3)", d.shares.told(3), 2);
        d.dueRefused(5, 0, 0);
        d = Document.says("BAD; FULL: 160.");
        for (int n = 1; n <= 160; n++) {
            d.due("type('0')", d.shares.type('0'), n);
        }
        d.due("type('0') behind 160", d.shares.type('0'), PostShares.FULL);
        d.due("type(-1) behind 160, BAD comes first", d.shares.type(-1), PostShares.BAD);
        d.due("type(128) behind 160, BAD comes first", d.shares.type(128), PostShares.BAD);
        d.due("type(127) behind 160", d.shares.type(127), PostShares.FULL);
        d.due("told(3)", d.shares.told(3), 160);
        d.dueRefused(2, 0, 2);
        d.due("clear()", d.shares.clear(), 160);
        d.due("type('0'), no more FULL", d.shares.type('0'), 1);
    }

    private static void clearBounds() {
        String sentence = "THE TEXT is empty: how many it had.";
        Desk d = Document.says(sentence);
        d.due("clear() of nothing", d.shares.clear(), 0);
        d.due("type('=')", d.shares.type('='), 1);
        d.due("clear() of one", d.shares.clear(), 1);
        d.due("clear() again", d.shares.clear(), 0);
        d.due("reads()", d.shares.reads(), 0);
        d = Document.says(sentence, "=a;+5:7!;");
        d.due("takes(0)", d.shares.takes(0), 0);
        d.due("clear()", d.shares.clear(), 9);
        d.due("told(3)", d.shares.told(3), 0);
        d.due("told(4): LOTS stay", d.shares.told(4), 1);
        d.due("lot(0, 1): what is TAKEN stays", d.shares.lot(0, 1), 0);
        d.due("told(9): no STATE", d.shares.told(9), 2);
        d = Document.says(sentence);
        d.due("reads(=x)", d.reads("=x"), -11);
        d.shares.clear();
        dueReasons(d, "stay behind clear()", 0, 1, 0, 'x');
    }

    private static void readsBounds() {
        String sentence = "THE TEXT tells all anew (nothing is TAKEN; THE TEXT stays, REASONS stay, if it has no FAULT): "
            + "how many ITEMS. S.";
        Desk d = Document.says(sentence);
        d.due("reads(=)", d.reads("="), -11);
        d.due("reads()", d.reads("=a;=b;+5:7,8!;+4:1,2!;"), 4);
        dueReasons(d, "stay", 0, 1, 0, NONE);
        d.due("takes(0)", d.shares.takes(0), 0);
        d.due("vetoes(1)", d.shares.vetoes(1), 0);
        d.due("takes(1)", d.shares.takes(1), 0);
        d.due("reads()", d.shares.reads(), 4);
        d.due("told(3)", d.shares.told(3), 22);
        d.due("told(7)", d.shares.told(7), 0);
        d.due("told(8)", d.shares.told(8), 2);
        d.due("told(9)", d.shares.told(9), 5);
        for (int k = 0; k < 2; k++) {
            d.due("lot(k, 1)", d.shares.lot(k, 1), NONE);
            d.due("lot(k, 2)", d.shares.lot(k, 2), NONE);
            d.due("lot(k, 3)", d.shares.lot(k, 3), 0);
        }
        d.due("vetoes(1), nothing was TAKEN last", d.shares.vetoes(1), PostShares.NO);
        d.due("back()", d.shares.back(), 4);
        d.due("lot(1, 1)", d.shares.lot(1, 1), 0);
        String less = "-10 less the FAULT.";
        d = Document.says(less);
        d.due("a FAULT at 0", d.reads(";"), -10);
        d.due("a FAULT at 1", d.reads("=;"), -11);
        d.due("a FAULT at 3", d.reads("=a;="), -14);
    }

    private static void reasonBounds() {
        String sentence = "A REASON (0 .. 3) of the latest reads() that had a FAULT; NONE before. BAD.";
        Desk d = Document.says(sentence);
        dueReasons(d, "before all", NONE, NONE, NONE, NONE);
        d.due("reads(=a;)", d.reads("=a;"), 1);
        dueReasons(d, "behind a reads() without a FAULT", NONE, NONE, NONE, NONE);
        d.due("reads(=a;=ba;)", d.reads("=a;=ba;"), -15);
        dueReasons(d, "behind a FAULT", 1, 1, 1, 'a');
        d.due("reads(%9;)", d.reads("%9;"), -11);
        dueReasons(d, "of the latest", 0, 2, 0, '9');
        d.shares.type('x');
        d.due("reads(=b;)", d.reads("=b;"), 1);
        d.due("back()", d.shares.back(), 1);
        dueReasons(d, "of the latest with a FAULT", 0, 2, 0, '9');
        int[] wrong = {-1, 4, Integer.MAX_VALUE, Integer.MIN_VALUE};
        for (int what : wrong) {
            d.due("reason(" + what + ")", d.shares.reason(what), PostShares.BAD);
        }
        d.dueRefused(4, 0, 0);
    }

    // ---- helpers

    /** All bytes behind a text: those that can stand there, and what is told of each other one. */
    private static void stands(String ahead, String may, int item, int part, int which) {
        standsBut("", ahead, may, item, part, which);
    }

    private static void standsBut(String skipped, String ahead, String may, int item, int part, int which) {
        String sentence = "the first byte that can not stand there";
        for (char c = 0; c < 128; c++) {
            if (skipped.indexOf(c) >= 0) {
                continue;
            }
            if (may.indexOf(c) < 0) {
                fault(sentence, ahead + c, ahead.length(), item, part, which, c);
                continue;
            }
            Desk d = Document.says(sentence);
            int got = d.reads(ahead + c);
            d.due("reads(" + ahead + c + ")", got, c == ';' ? item + 1 : -11 - ahead.length());
            d.due("reason(3)", d.shares.reason(3), NONE);
        }
    }

    /** On a desk of its own: an object is used for 512 calls at most. */
    private static void fault(String sentence, String text, int place, int item, int part, int which, int stands) {
        Desk d = Document.says(sentence);
        d.due("reads(" + text + ")", d.reads(text), -10 - place);
        dueReasons(d, text, item, part, which, stands);
    }

    private static void dueReasons(Desk d, String text, int item, int part, int which, int stands) {
        d.due("reason(0) of " + text, d.shares.reason(0), item);
        d.due("reason(1) of " + text, d.shares.reason(1), part);
        d.due("reason(2) of " + text, d.shares.reason(2), which);
        d.due("reason(3) of " + text, d.shares.reason(3), stands);
    }
}
