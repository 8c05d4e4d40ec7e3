/** For each promise of the document: ordinary inputs, the edges that it names, and wrong inputs. */
public final class PromisesTest {
    private static final int BAD = -1, STATE = -2, FULL = -3, NONE = -9, NO = -1000000;
    private static final int[] FAR = {Integer.MIN_VALUE, -1000000, Integer.MAX_VALUE};

    private static int wrong = 0;
    private static int promise = 0;

    private static void due(String call, int got, int want) {
        if (got != want) {
            wrong++;
            System.out.println("promise " + promise + ": " + call + " answered " + got + ", due is " + want);
        }
    }

    private static void type(LoomCards x, String text) {
        for (char letter : text.toCharArray()) {
            x.type(letter);
        }
    }

    private static int tell(LoomCards x, String text) {
        x.clear();
        type(x, text);
        return x.tells();
    }

    private static LoomCards loom(String text) {
        LoomCards x = new LoomCards();
        int items = tell(x, text);
        if (items < 0) {
            due("the test's own text " + text, items, 0);
        }
        return x;
    }

    private static void dueTold(String text, int want) {
        due("tells() of '" + text + "'", tell(new LoomCards(), text), want);
    }

    private static void dueFault(String text, int fault) {
        dueTold(text, -10 - fault);
    }

    /** H, E, n, LIMIT, HOLES. */
    private static void dueCounts(String when, LoomCards x, int... want) {
        for (int what = 0; what < want.length; what++) {
            due(when + " count(" + what + ")", x.count(what), want[what]);
        }
    }

    private static void aNewObject() {
        LoomCards x = new LoomCards();
        dueCounts("new", x, 2, 2, 1, 12, 0, 0, 0, 0);
        due("end(0, 0)", x.end(0, 0), 0);
        due("end(1, 0)", x.end(1, 0), 1);
        due("card(0, 0)", x.card(0, 0), 0);
        due("told(4)", x.told(4), 0);
        due("back(0)", x.back(0), STATE);
        due("back(1)", x.back(1), STATE);
        due("undo()", x.undo(), STATE);
    }

    private static void type() {
        LoomCards x = new LoomCards();
        due("type(-1)", x.type(-1), BAD);
        due("type(256)", x.type(256), BAD);
        due("type(0)", x.type(0), 1);
        due("type(255)", x.type(255), 2);
        for (int i = 3; i <= 120; i++) {
            due("type(32)", x.type(32), i);
        }
        due("type(32) as the 121st", x.type(32), FULL);
        due("type(256) as the 121st", x.type(256), BAD);
        due("count(6)", x.count(6), 120);
        for (int far : FAR) {
            due("type(" + far + ")", x.type(far), BAD);
        }
        due("clear()", x.clear(), 120);
        due("type(32) behind clear()", x.type(32), 1);
    }

    private static void clear() {
        LoomCards x = new LoomCards();
        due("clear() of nothing", x.clear(), 0);
        type(x, "hooks 3;");
        due("clear()", x.clear(), 8);
        due("clear() again", x.clear(), 0);
        due("count(6)", x.count(6), 0);
        due("tells() of what was cleared", x.tells(), 0);
        due("count(0)", x.count(0), 2);
    }

    private static void tells() {
        LoomCards x = loom("hooks 3;ties 0212;card 101;cloth 1010;limit 7;limit 5;");
        dueCounts("told all", x, 3, 4, 2, 5, 4, 0, 0, 1);
        due("card(0, 0)", x.card(0, 0), 5);
        due("card(1, 0) of cloth", x.card(1, 0), 3);
        tellsByCloth();
        tellsWhatIsNotToldAsAtFirst();
        tellsBlanks();
        tellsKeepsTheRest();
    }

    private static void tellsByCloth() {
        due("items", tell(new LoomCards(), "hooks 4;ties 0220;cloth 1001;cloth 0110;cloth 1111;"), 5);
        LoomCards x = loom("hooks 4;ties 0220;cloth 1001;cloth 0110;cloth 1111;");
        due("card(0, 0)", x.card(0, 0), 1);
        due("card(1, 0)", x.card(1, 0), 4);
        due("card(2, 0)", x.card(2, 0), 5);
        LoomCards one = loom("hooks 1;cloth 11;cloth 00;");
        due("one hook: card(0, 0)", one.card(0, 0), 1);
        due("one hook: card(1, 0)", one.card(1, 0), 0);
    }

    private static void tellsWhatIsNotToldAsAtFirst() {
        LoomCards x = loom("hooks 6;ties 012345012345;card 111111;card 000001;limit 1;");
        dueCounts("all", x, 6, 12, 2, 1, 7);
        due("tells() of nothing", x.tells(), 0);
        dueCounts("of nothing", x, 2, 2, 1, 12, 0, 0, 0, 2);
        due("end(1, 0)", x.end(1, 0), 1);
        due("hooks 1;", tell(x, "hooks 1;"), 1);
        dueCounts("hooks 1;", x, 1, 2, 1, 12, 0);
        due("end(0, 0)", x.end(0, 0), 0);
        due("end(1, 0)", x.end(1, 0), 0);
        due("hooks 6;", tell(x, "hooks 6;"), 1);
        due("end(1, 0)", x.end(1, 0), 1);
        due("told(4)", x.told(4), 60);
        due("ties 1;", tell(x, "ties 1;"), 1);
        dueCounts("ties 1;", x, 2, 1, 1, 12, 0);
        due("end(0, 0)", x.end(0, 0), 1);
    }

    private static void tellsBlanks() {
        dueTold("", 0);
        dueTold("   ", 0);
        dueTold("  hooks   3  ;  ties 01  ;card011;limit12;  ", 4);
        dueTold("limit 3;hooks 3;limit 4;ties 012;limit 12;card 000;limit 1;", 7);
        dueTold("card 00;card 01;card 10;card 11;cloth 00;cloth 01;cloth 10;cloth 11;", 8);
        dueTold("ties 000000000000;cloth 000000000000;", 2);
    }

    private static void tellsKeepsTheRest() {
        LoomCards x = loom("hooks 3;card 111;");
        x.keep(1);
        x.sees(0, 0, 1);
        due("FAULT", tell(x, "hooks 2;card 111;"), -10 - 13);
        dueCounts("behind a FAULT", x, 3, 2, 1, 12, 3, 1, 17, 1);
        due("tells() again", x.tells(), -23);
        due("the next", tell(x, "hooks 2;"), 1);
        dueCounts("behind the next", x, 2, 2, 1, 12, 0, 1, 0, 2);
        due("back(1)", x.back(1), 1);
        due("card(0, 0)", x.card(0, 0), 7);
    }

    private static void tellsFaults() {
        dueFault("hooks", 5);
        dueFault("hooks 3", 7);
        dueFault("hooks 3  ", 9);
        dueFault("hooks" + " ".repeat(115), 120);
        dueFault("hook", 0);
        dueFault("  hook", 2);
        dueFault("hooksties", 0);
        dueFault("sard 00;", 0);
        dueFault("cord 00;", 0);
        dueFault("cardz 00;", 0);
        dueFault("acard 00;", 0);
        dueFault("caRd 00;", 0);
        dueFault("card#00;", 4);
        dueFault("card 0#;", 5);
        dueFault("card 00#;", 7);
        dueFault("card 00,", 7);
        dueFault("Card 00;", 0);
        dueFault("card\t00;", 4);
        dueFault("card 00;" + (char) 255, 8);
        dueFault("card 00;" + (char) 0, 8);
        dueFault(";", 0);
        dueFault("card 00;;", 8);
        dueFault("12;", 0);
        dueFault("card ;", 5);
        dueFault("card card;", 5);
        dueFault("card 00 00;", 8);
        dueFault("card 0 0;", 5);
        dueFault("card 00 card 00;", 8);
        dueFault("card 00limit 3;", 7);
        faultsOfNumbers();
        faultsOfOrder();
        faultsOfFigures();
    }

    private static void faultsOfNumbers() {
        for (String n : new String[] {"0", "7", "9", "10", "12", "00", "02", "003", "100", "3000000000"}) {
            dueFault("hooks " + n + ";", 6);
        }
        for (String n : new String[] {"0", "13", "20", "99", "00", "01", "012", "100", "4294967297"}) {
            dueFault("limit " + n + ";", 6);
        }
        for (int n = 1; n <= 6; n++) {
            dueTold("hooks " + n + ";", 1);
        }
        for (int n = 1; n <= 12; n++) {
            dueTold("limit " + n + ";", 1);
        }
    }

    private static void faultsOfOrder() {
        dueFault("hooks 2;hooks 2;", 8);
        dueFault("ties 01;hooks 2;", 8);
        dueFault("card 01;hooks 2;", 8);
        dueFault("cloth 01;hooks 2;", 9);
        dueFault("ties 01;ties 01;", 8);
        dueFault("card 01;ties 01;", 8);
        dueFault("cloth 01;ties 01;", 9);
        dueFault("hooks 1;card 0;card 0;card 0;cloth 00;card 0;card 0;card 0;card 0;card", 66);
        dueFault("hooks 1;card 0;card 0;card 0;cloth 00;card 0;card 0;card 0;card 0;cloth 1", 66);
        dueTold("hooks 1;card 0;card 0;card 0;cloth 00;card 0;card 0;card 0;card 0;limit 1;", 10);
    }

    private static void faultsOfFigures() {
        dueFault("ties 2;", 5);
        dueFault("ties 012;", 5);
        dueFault("hooks 1;ties 01;", 13);
        dueFault("hooks 6;ties 0126;", 13);
        dueFault("ties 0000000000000;", 5);
        dueFault("card 0;", 5);
        dueFault("card 000;", 5);
        dueFault("card 02;", 5);
        dueFault("hooks 3;card 00;", 13);
        dueFault("cloth 0;", 6);
        dueFault("cloth 000;", 6);
        dueFault("cloth 20;", 6);
        dueFault("ties 010;cloth 11;", 15);
        dueFault("ties 010;cloth 110;", 15);
        dueFault("ties 010;cloth 001;", 15);
        dueFault("hooks 1;cloth 01;", 14);
    }

    private static void punches() {
        LoomCards x = loom("hooks 3;card 000;card 000;");
        due("punches(1, 2)", x.punches(1, 2), 1);
        due("card(1, 0)", x.card(1, 0), 4);
        due("card(0, 0)", x.card(0, 0), 0);
        due("punches(1, 0)", x.punches(1, 0), 1);
        due("punches(1, 2) again", x.punches(1, 2), 0);
        due("card(1, 0)", x.card(1, 0), 1);
        due("punches(2, 0)", x.punches(2, 0), BAD);
        due("punches(0, 3)", x.punches(0, 3), BAD);
        due("punches(-1, 0)", x.punches(-1, 0), BAD);
        due("punches(0, -1)", x.punches(0, -1), BAD);
        for (int far : FAR) {
            due("punches(" + far + ", 0)", x.punches(far, 0), BAD);
            due("punches(0, " + far + ")", x.punches(0, far), BAD);
        }
        due("count(7)", x.count(7), 4);
    }

    private static void ties() {
        LoomCards x = loom("hooks 3;ties 012;card 100;");
        due("ties(2, 0)", x.ties(2, 0), 2);
        due("card(0, 1)", x.card(0, 1), 5);
        due("ties(2, 0) again", x.ties(2, 0), STATE);
        due("ties(2, 1)", x.ties(2, 1), 0);
        due("end(2, 0)", x.end(2, 0), 1);
        due("ties(3, 0)", x.ties(3, 0), BAD);
        due("ties(0, 3)", x.ties(0, 3), BAD);
        due("ties(-1, 0)", x.ties(-1, 0), BAD);
        due("ties(0, -1)", x.ties(0, -1), BAD);
        for (int far : FAR) {
            due("ties(" + far + ", 0)", x.ties(far, 0), BAD);
            due("ties(0, " + far + ")", x.ties(0, far), BAD);
        }
        due("count(7)", x.count(7), 3);
    }

    private static void adds() {
        LoomCards x = loom("hooks 3;card 111;");
        due("adds(8)", x.adds(8), BAD);
        due("adds(-1)", x.adds(-1), BAD);
        due("adds(7)", x.adds(7), 2);
        due("adds(0)", x.adds(0), 3);
        due("card(1, 0)", x.card(1, 0), 7);
        due("card(2, 0)", x.card(2, 0), 0);
        for (int n = 4; n <= 8; n++) {
            due("adds(1)", x.adds(1), n);
        }
        due("adds(1) as the ninth", x.adds(1), FULL);
        due("adds(8) as the ninth", x.adds(8), BAD);
        due("count(2)", x.count(2), 8);
        for (int far : FAR) {
            due("adds(" + far + ")", x.adds(far), BAD);
        }
        LoomCards six = loom("hooks 6;");
        due("six: adds(63)", six.adds(63), 2);
        due("six: adds(64)", six.adds(64), BAD);
        LoomCards one = loom("hooks 1;");
        due("one: adds(1)", one.adds(1), 2);
        due("one: adds(2)", one.adds(2), BAD);
    }

    private static void drops() {
        LoomCards x = loom("hooks 3;card 100;card 010;card 001;card 111;");
        due("drops(4)", x.drops(4), BAD);
        due("drops(-1)", x.drops(-1), BAD);
        due("drops(1)", x.drops(1), 3);
        due("card(0, 0)", x.card(0, 0), 1);
        due("card(1, 0)", x.card(1, 0), 4);
        due("card(2, 0)", x.card(2, 0), 7);
        due("card(3, 0)", x.card(3, 0), BAD);
        due("drops(2)", x.drops(2), 2);
        due("drops(0)", x.drops(0), 1);
        due("card(0, 0)", x.card(0, 0), 4);
        due("drops(0) of one", x.drops(0), STATE);
        due("drops(1) of one", x.drops(1), BAD);
        for (int far : FAR) {
            due("drops(" + far + ")", x.drops(far), BAD);
        }
        due("count(7)", x.count(7), 4);
        LoomCards all = loom("card 11;card 00;card 00;card 00;card 00;card 00;card 00;card 01;");
        due("the last of eight", all.drops(7), 7);
        due("the first of seven", all.drops(0), 6);
        due("count(4)", all.count(4), 0);
    }

    private static void changes() {
        LoomCards x = loom("hooks 3;ties 0001;card 100;card 011;card 101;");
        due("changes(0, 1)", x.changes(0, 1), 4);
        due("card(0, 0)", x.card(0, 0), 6);
        due("card(1, 0)", x.card(1, 0), 1);
        due("changes(2, 1), which differ by a hook without ends", x.changes(2, 1), 0);
        due("card(1, 0)", x.card(1, 0), 5);
        due("card(2, 0)", x.card(2, 0), 1);
        due("changes(1, 1)", x.changes(1, 1), STATE);
        due("changes(3, 3)", x.changes(3, 3), BAD);
        due("changes(0, 3)", x.changes(0, 3), BAD);
        due("changes(3, 0)", x.changes(3, 0), BAD);
        due("changes(-1, 0)", x.changes(-1, 0), BAD);
        due("changes(0, -1)", x.changes(0, -1), BAD);
        for (int far : FAR) {
            due("changes(" + far + ", " + far + ")", x.changes(far, far), BAD);
        }
        due("count(7)", x.count(7), 3);
        due("undo()", x.undo(), 2);
        due("card(1, 0)", x.card(1, 0), 1);
    }

    private static void limits() {
        LoomCards x = new LoomCards();
        due("limits(12)", x.limits(12), STATE);
        due("limits(1)", x.limits(1), 12);
        due("limits(1) again", x.limits(1), STATE);
        due("limits(12)", x.limits(12), 1);
        due("limits(0)", x.limits(0), BAD);
        due("limits(13)", x.limits(13), BAD);
        for (int far : FAR) {
            due("limits(" + far + ")", x.limits(far), BAD);
        }
        due("count(3)", x.count(3), 12);
        due("count(7)", x.count(7), 2);
    }

    private static void undo() {
        LoomCards x = loom("hooks 3;ties 012;card 111;card 000;limit 3;");
        x.punches(0, 0);
        x.ties(0, 2);
        x.adds(5);
        x.drops(0);
        x.changes(0, 1);
        due("six known", x.count(7), 6);
        x.limits(9);
        due("six known, not seven", x.count(7), 6);
        x.limits(9);
        x.adds(8);
        x.undo();
        due("limits() undone", x.count(3), 3);
        due("undo() of changes()", x.undo(), 4);
        due("card(0, 0)", x.card(0, 0), 0);
        due("undo() of drops()", x.undo(), 3);
        due("card(0, 0)", x.card(0, 0), 6);
        due("undo() of adds()", x.undo(), 2);
        due("count(2)", x.count(2), 2);
        due("undo() of ties()", x.undo(), 1);
        due("end(0, 0)", x.end(0, 0), 0);
        due("undo() of punches()", x.undo(), 0);
        due("card(0, 0)", x.card(0, 0), 7);
        due("tells() is lost", x.undo(), STATE);
        undoOfTells();
        undoAndDoAgain();
    }

    private static void undoOfTells() {
        LoomCards x = loom("hooks 6;ties 543210;card 111111;card 000000;limit 2;");
        due("told anew", tell(x, "hooks 1;"), 1);
        type(x, "card");
        due("undo() of tells()", x.undo(), 1);
        dueCounts("undone", x, 6, 6, 2, 2, 6, 0, 4, 1);
        due("end(0, 0)", x.end(0, 0), 5);
        due("undo() of the first tells()", x.undo(), 0);
        dueCounts("undone", x, 2, 2, 1, 12, 0, 0, 4, 0);
    }

    private static void undoAndDoAgain() {
        LoomCards x = new LoomCards();
        for (int limit = 1; limit <= 11; limit++) {
            x.limits(limit);
        }
        due("undo()", x.undo(), 5);
        due("undo()", x.undo(), 4);
        due("count(3)", x.count(3), 9);
        x.limits(1);
        x.limits(2);
        x.limits(3);
        due("count(7)", x.count(7), 6);
        int[] was = {2, 1, 9, 8, 7, 6};
        for (int i = 0; i < was.length; i++) {
            due("undo()", x.undo(), 5 - i);
            due("count(3)", x.count(3), was[i]);
        }
        due("undo() of none", x.undo(), STATE);
        x.sees(0, 0, 1);
        x.keep(0);
        due("sees(), keep() are not UNDONE", x.undo(), STATE);
    }

    private static void card() {
        LoomCards x = loom("hooks 4;ties 0011220;card 1010;card 0101;card 1101;card 0000;card 1111;");
        int[][] want = {{5, 115, 2}, {10, 12, 3}, {11, 79, 2}, {0, 0, 7}, {15, 127, 0}};
        for (int card = 0; card < 5; card++) {
            for (int what = 0; what < 3; what++) {
                due("card(" + card + ", " + what + ")", x.card(card, what), want[card][what]);
            }
        }
        due("card(5, 0)", x.card(5, 0), BAD);
        due("card(-1, 0)", x.card(-1, 0), BAD);
        due("card(0, 3)", x.card(0, 3), BAD);
        due("card(0, -1)", x.card(0, -1), BAD);
        for (int far : FAR) {
            due("card(" + far + ", 0)", x.card(far, 0), BAD);
            due("card(0, " + far + ")", x.card(0, far), BAD);
        }
        LoomCards notRound = loom("ties 0100010;card 01;");
        due("ACROSS is not round", notRound.card(0, 2), 3);
        LoomCards most = loom("ties 000000000000;");
        due("twelve across", most.card(0, 2), 12);
    }

    private static void end() {
        LoomCards x = loom("hooks 5;ties 43210;card 10100;card 10100;card 10010;card 10000;card 10010;");
        int[][] want = {{4, 99, 0}, {3, 2, 20}, {2, 3, 3}, {1, 99, 0}, {0, 99, 31}};
        for (int end = 0; end < 5; end++) {
            for (int what = 0; what < 3; what++) {
                due("end(" + end + ", " + what + ")", x.end(end, what), want[end][what]);
            }
        }
        due("end(5, 0)", x.end(5, 0), BAD);
        due("end(-1, 0)", x.end(-1, 0), BAD);
        due("end(0, 3)", x.end(0, 3), BAD);
        due("end(0, -1)", x.end(0, -1), BAD);
        for (int far : FAR) {
            due("end(" + far + ", 0)", x.end(far, 0), BAD);
            due("end(0, " + far + ")", x.end(0, far), BAD);
        }
        LoomCards round = loom("card 10;card 10;card 01;card 00;card 10;card 10;card 10;");
        due("ALONG goes on from the last CARD to the first", round.end(0, 1), 5);
        due("DOWN, too", round.end(1, 1), 6);
        LoomCards far = loom("card 10;card 10;card 10;card 01;card 10;card 10;card 10;card 10;");
        due("ALONG goes on far behind the first CARD", far.end(0, 1), 7);
        LoomCards once = loom("hooks 1;card 1;card 0;");
        due("ALONG 1", once.end(0, 1), 1);
        due("one CARD", loom("card 10;").end(0, 1), 99);
    }

    private static void cloth() {
        LoomCards x = loom("hooks 3;ties 20;card 100;card 001;card 000;");
        int[][] want = {{0, 1}, {1, 0}, {0, 0}};
        for (int row = 0; row < 9; row++) {
            due("cloth(" + row + ", 0)", x.cloth(row, 0), want[row % 3][0]);
            due("cloth(" + row + ", 1)", x.cloth(row, 1), want[row % 3][1]);
        }
        due("cloth(9999, 1)", x.cloth(9999, 1), 1);
        due("cloth(9997, 0)", x.cloth(9997, 0), 1);
        due("cloth(10000, 0)", x.cloth(10000, 0), BAD);
        due("cloth(-1, 0)", x.cloth(-1, 0), BAD);
        due("cloth(0, 2)", x.cloth(0, 2), BAD);
        due("cloth(0, -1)", x.cloth(0, -1), BAD);
        for (int far : FAR) {
            due("cloth(" + far + ", 0)", x.cloth(far, 0), BAD);
            due("cloth(0, " + far + ")", x.cloth(0, far), BAD);
        }
    }

    private static void told() {
        LoomCards x = loom("hooks 3;ties 0110;card 100;card 010;card 101;card 011;");
        due("REPEAT, a hook without ends left out", x.told(0), 2);
        due("FEWEST HOOKS", x.told(1), 2);
        due("HOOKS without ENDS", x.told(4), 4);
        due("nothing TOO LONG", x.told(2) + x.told(3), 0);
        x.limits(1);
        due("CARDS TOO LONG", x.told(2), 5);
        due("ENDS TOO LONG", x.told(3), 0);
        x.changes(1, 2);
        due("ENDS TOO LONG", x.told(3), 15);
        due("REPEAT", x.told(0), 4);
        due("REPEAT 3 of 3", loom("card 10;card 10;card 01;").told(0), 3);
        due("REPEAT 1", loom("card 10;card 10;card 10;").told(0), 1);
        due("REPEAT 3 of 6", loom("card 10;card 11;card 01;card 10;card 11;card 01;").told(0), 3);
        due("REPEAT 5, for 2 are not a part of 5", loom("card 10;card 01;card 10;card 01;card 10;").told(0), 5);
        due("unlike HOOKS with alike ENDS", loom("hooks 3;ties 012;card 110;card 001;").told(1), 2);
        due("the same in all ROWS is TOO LONG by any LIMIT", loom("card 10;card 00;").told(3), 2);
        due("as long as LIMIT is not TOO LONG", loom("ties 0011;card 01;card 10;limit 2;").told(2), 0);
        due("HOOKS without ENDS", loom("hooks 6;ties 3;").told(4), 55);
        due("told(5)", x.told(5), BAD);
        due("told(-1)", x.told(-1), BAD);
        for (int far : FAR) {
            due("told(" + far + ")", x.told(far), BAD);
        }
    }

    private static void dueMends(String text, int fewest, int lower, int other) {
        LoomCards x = loom(text);
        due("mends(-1) of " + text, x.mends(-1), fewest);
        due("mends(0) of " + text, x.mends(0), lower);
        due("mends(1) of " + text, x.mends(1), other);
        due("mends(2) of " + text, x.mends(2), BAD);
        due("mends(-2) of " + text, x.mends(-2), BAD);
        due("count(7) of " + text, x.count(7), 1);
    }

    private static void mends() {
        dueMends("card 10;card 01;", 0, NONE, NONE);
        dueMends("card 10;card 00;", 1, 1, NONE);
        dueMends("card 11;card 01;", 1, 1, NONE);
        dueMends("card 01;card 00;", 1, 0, NONE);
        dueMends("card 00;card 00;", 2, 0, 1);
        dueMends("card 11;card 11;", 2, 0, 1);
        dueMends("card 11;card 11;limit 1;", 2, 0, 3);
        dueMends("ties 01010101;card 00;card 11;card 10;limit 2;", 1, 1, NONE);
        dueMends("card 00;", NONE, NONE, NONE);
        dueMends("hooks 3;ties 012;card 000;card 000;", NONE, NONE, NONE);
        LoomCards x = loom("card 00;card 00;");
        x.mends(-1);
        due("nothing is changed", x.count(4), 0);
        for (int far : FAR) {
            due("mends(" + far + ")", x.mends(far), BAD);
        }
    }

    private static void sees() {
        LoomCards x = new LoomCards();
        due("sees(100, 0, 1)", x.sees(100, 0, 1), BAD);
        due("sees(-1, 0, 1)", x.sees(-1, 0, 1), BAD);
        due("sees(0, 12, 1)", x.sees(0, 12, 1), BAD);
        due("sees(0, -1, 1)", x.sees(0, -1, 1), BAD);
        due("sees(0, 0, 2)", x.sees(0, 0, 2), BAD);
        due("sees(0, 0, -1)", x.sees(0, 0, -1), BAD);
        due("sees(99, 11, 0)", x.sees(99, 11, 0), 1);
        for (int i = 2; i <= 8; i++) {
            due("sees(0, 0, 1), told again", x.sees(0, 0, 1), i);
        }
        due("sees(0, 0, 1) as the ninth", x.sees(0, 0, 1), FULL);
        due("sees(0, 0, 2) as the ninth", x.sees(0, 0, 2), BAD);
        for (int far : FAR) {
            due("sees(" + far + ", 0, 0)", x.sees(far, 0, 0), BAD);
            due("sees(0, " + far + ", 0)", x.sees(0, far, 0), BAD);
            due("sees(0, 0, " + far + ")", x.sees(0, 0, far), BAD);
        }
        due("count(5)", x.count(5), 8);
        due("count(7)", x.count(7), 0);
    }

    private static void forget() {
        LoomCards x = new LoomCards();
        due("forget() of nothing", x.forget(), 0);
        x.sees(0, 0, 1);
        x.sees(0, 5, 1);
        due("suspects(0)", x.suspects(0), 0);
        due("forget()", x.forget(), 2);
        due("suspects(0)", x.suspects(0), 3);
        due("forget() again", x.forget(), 0);
        due("sees(0, 0, 0)", x.sees(0, 0, 0), 1);
    }

    private static void suspects() {
        LoomCards x = loom("hooks 3;ties 001;card 100;card 010;");
        due("nothing SEEN: all", x.suspects(0), 7);
        due("the first", x.suspects(1), -1);
        x.sees(2, 0, 1);
        due("SEEN as it is: all but one", x.suspects(0), 6);
        due("the first", x.suspects(1), -1);
        x.sees(51, 1, 1);
        due("SEEN otherwise: one", x.suspects(0), 1);
        due("the first", x.suspects(1), 3);
        x.punches(1, 0);
        due("as all stands when it is asked", x.suspects(0), 5);
        due("the first", x.suspects(1), -1);
        x.sees(0, 0, 0);
        due("against what was SEEN: none", x.suspects(0), 0);
        due("the first", x.suspects(1), NONE);
        suspectsOfAnEndThatIsNotThere();
        due("suspects(2)", x.suspects(2), NO);
        due("suspects(-1)", x.suspects(-1), NO);
        for (int far : FAR) {
            due("suspects(" + far + ")", x.suspects(far), NO);
        }
    }

    private static void suspectsOfAnEndThatIsNotThere() {
        LoomCards x = new LoomCards();
        x.sees(0, 2, 0);
        due("END 2 of 2", x.suspects(0), 0);
        due("END 2 of 2", x.suspects(1), NONE);
        tell(x, "ties 010;");
        due("END 2 of 3", x.suspects(0), 2);
        due("END 2 of 3", x.suspects(1), -1);
    }

    private static void look() {
        LoomCards x = loom("hooks 3;ties 2210;card 100;card 010;");
        due("look()", x.look(), 0);
        x.sees(0, 0, 0);
        due("END 1 tells no more than END 0", x.look(), 2);
        x.sees(0, 2, 0);
        due("look()", x.look(), 3);
        x.sees(0, 3, 1);
        due("look() in the next ROW", x.look(), 12);
        x.sees(1, 0, 0);
        due("look()", x.look(), 14);
        x.sees(1, 2, 1);
        due("look()", x.look(), 15);
        x.sees(1, 3, 0);
        due("one can be", x.look(), NONE);
        x.sees(1, 3, 1);
        due("none can be", x.look(), NONE);
        LoomCards apart = loom("hooks 3;ties 0;card 000;");
        apart.sees(0, 0, 0);
        due("three can be, told apart nowhere", apart.suspects(0), 3);
        due("look(): the least", apart.look(), 0);
    }

    private static void keep() {
        LoomCards x = loom("hooks 3;ties 0120;card 110;card 001;limit 4;");
        due("keep(0)", x.keep(0), 2);
        due("keep(2)", x.keep(2), BAD);
        due("keep(-1)", x.keep(-1), BAD);
        for (int far : FAR) {
            due("keep(" + far + ")", x.keep(far), BAD);
        }
        due("count(7)", x.count(7), 1);
        x.adds(0);
        due("keep(1)", x.keep(1), 3);
        x.drops(0);
        x.drops(0);
        due("keep(0) again", x.keep(0), 1);
        due("back(1)", x.back(1), 3);
        due("back(0)", x.back(0), 1);
        due("card(0, 0)", x.card(0, 0), 0);
    }

    private static void back() {
        LoomCards x = loom("hooks 3;ties 0120;card 110;card 001;limit 4;");
        x.keep(0);
        due("back(1)", x.back(1), STATE);
        due("a refused one loses nothing", x.count(7), 1);
        due("back(2)", x.back(2), BAD);
        due("back(-1)", x.back(-1), BAD);
        for (int far : FAR) {
            due("back(" + far + ")", x.back(far), BAD);
        }
        tell(x, "hooks 1;");
        type(x, "card");
        x.sees(3, 3, 0);
        due("back(0)", x.back(0), 2);
        dueCounts("back", x, 3, 4, 2, 4, 3, 1, 4, 0);
        due("end(3, 0)", x.end(3, 0), 0);
        due("end(2, 0)", x.end(2, 0), 2);
        due("card(0, 0)", x.card(0, 0), 3);
        due("card(1, 0)", x.card(1, 0), 4);
        due("undo()", x.undo(), STATE);
        x.punches(0, 0);
        due("the IMAGE stays as it was", x.back(0), 2);
        due("card(0, 0)", x.card(0, 0), 3);
    }

    private static void count() {
        LoomCards x = loom("hooks 5;ties 012340;card 10101;card 00011;card 11111;limit 7;");
        type(x, "ab ");
        x.sees(0, 0, 0);
        x.sees(1, 0, 0);
        x.punches(1, 0);
        dueCounts("count", x, 5, 6, 3, 7, 11, 2, 3, 2);
        due("count(8)", x.count(8), BAD);
        due("count(-1)", x.count(-1), BAD);
        for (int far : FAR) {
            due("count(" + far + ")", x.count(far), BAD);
        }
        x.drops(2);
        due("HOLES of a CARD that was DROPPED are gone", x.count(4), 6);
    }

    private static final Runnable[] PROMISES = {
        PromisesTest::aNewObject, PromisesTest::type, PromisesTest::clear, PromisesTest::tells,
        PromisesTest::punches, PromisesTest::ties, PromisesTest::adds, PromisesTest::drops,
        PromisesTest::changes, PromisesTest::limits, PromisesTest::undo, PromisesTest::card,
        PromisesTest::end, PromisesTest::cloth, PromisesTest::told, PromisesTest::mends,
        PromisesTest::sees, PromisesTest::forget, PromisesTest::suspects, PromisesTest::look,
        PromisesTest::keep, PromisesTest::back, PromisesTest::count,
    };

    public static void main(String[] args) {
        for (Runnable test : PROMISES) {
            promise++;
            test.run();
        }
        promise = 4;
        tellsFaults();
        System.out.println(wrong == 0 ? "all answers are as due" : wrong + " answers are not as due");
        if (wrong != 0) {
            System.exit(1);
        }
    }
}
