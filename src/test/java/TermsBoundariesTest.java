/** The loom, CLOTH, UNDONE, MENDED, SEEN, SUSPECTS, LOOK, IMAGES: each sentence that names a boundary case has a test. */
public final class TermsBoundariesTest {
    private static final int BAD = -1, STATE = -2, FULL = -3, NONE = -9;

    private static int wrong = 0;
    private static String sentence = "";

    private static void due(String what, Object got, Object want) {
        if (!got.equals(want)) {
            wrong++;
            System.out.println("'" + sentence + "': " + what + " is " + got + ", due is " + want);
        }
    }

    private static int tell(LoomCards x, String text) {
        for (char letter : text.toCharArray()) {
            x.type(letter);
        }
        return x.tells();
    }

    private static LoomCards loom(String text) {
        LoomCards x = new LoomCards();
        due("the test's own text " + text + " is told", tell(x, text) >= 0, true);
        return x;
    }

    /** H, the HOOK of each END, the HOLES of each CARD (HOOK 0 first), LIMIT. */
    private static String shape(LoomCards x) {
        int hooks = x.count(0);
        int ends = x.count(1);
        int cards = x.count(2);
        StringBuilder shape = new StringBuilder().append(hooks).append(' ');
        for (int end = 0; end < ends; end++) {
            shape.append(x.end(end, 0));
        }
        for (int card = 0; card < cards; card++) {
            int holes = x.card(card, 0);
            shape.append(card == 0 ? ' ' : ',');
            for (int hook = 0; hook < hooks; hook++) {
                shape.append(holes >> hook & 1);
            }
        }
        return shape.append(' ').append(x.count(3)).toString();
    }

    private static String zeros(int howMany) {
        return "0".repeat(howMany);
    }

    /** CARDS for one HOOK: a figure each. */
    private static LoomCards column(String figures) {
        StringBuilder text = new StringBuilder("hooks 1;ties 0;");
        for (char figure : figures.toCharArray()) {
            text.append("card ").append(figure).append(';');
        }
        return loom(text.toString());
    }

    /** One CARD, each END on a HOOK of its own or beside others: UP for 1. */
    private static LoomCards row(String figures) {
        return loom("ties " + figures + ";card 01;");
    }

    // ---- the loom

    private static void aNewLoom() {
        sentence = "As at first: H 2, E 2, END e to HOOK e, n 1, no HOLES, LIMIT 12";
        LoomCards x = new LoomCards();
        due("the loom", shape(x), "2 01 00 12");
        int[] counts = {2, 2, 1, 12, 0, 0, 0, 0};
        for (int what = 0; what < 8; what++) {
            due("count(" + what + ")", x.count(what), counts[what]);
        }
        due("undo()", x.undo(), STATE);
        due("back(0)", x.back(0), STATE);
        due("back(1)", x.back(1), STATE);
        due("clear()", x.clear(), 0);
        due("forget()", x.forget(), 0);
        due("suspects(0)", x.suspects(0), 3);
    }

    private static void hooksFromOneToSix() {
        sentence = "HOOKS 0 to H less 1 (H 1 to 6)";
        for (int hooks = 1; hooks <= 6; hooks++) {
            LoomCards x = loom("hooks " + hooks + ";");
            due("count(0)", x.count(0), hooks);
            for (int hook = 0; hook < hooks; hook++) {
                due("punches(0, " + hook + ")", x.punches(0, hook), 1);
                due("card(0, 0)", x.card(0, 0), (2 << hook) - 1);
            }
            due("punches(0, H)", x.punches(0, hooks), BAD);
            due("ties(0, H)", x.ties(0, hooks), BAD);
            due("ties(0, H less 1)", x.ties(0, hooks - 1), hooks == 1 ? STATE : 0);
            due("count(4)", x.count(4), hooks);
        }
    }

    private static void endsFromOneToTwelve() {
        sentence = "ENDS 0 to E less 1 (E 1 to 12)";
        for (int ends = 1; ends <= 12; ends++) {
            LoomCards x = loom("ties " + zeros(ends - 1) + "1;card 01;");
            due("count(1)", x.count(1), ends);
            due("card(0, 1)", x.card(0, 1), 1 << ends - 1);
            due("end(E less 1, 0)", x.end(ends - 1, 0), 1);
            due("end(E, 0)", x.end(ends, 0), BAD);
            due("cloth(0, E less 1)", x.cloth(0, ends - 1), 1);
            due("cloth(0, E)", x.cloth(0, ends), BAD);
            due("ties(E, 0)", x.ties(ends, 0), BAD);
            due("ties(E less 1, 0)", x.ties(ends - 1, 0), 1);
            due("card(0, 1)", x.card(0, 1), 0);
        }
    }

    private static void cardsFromOneToEight() {
        sentence = "CARDS 0 to n less 1 (n 1 to 8)";
        LoomCards x = new LoomCards();
        for (int cards = 2; cards <= 8; cards++) {
            due("punches(n, 0)", x.punches(cards - 1, 0), BAD);
            due("adds(3)", x.adds(3), cards);
            due("count(2)", x.count(2), cards);
            due("card(n less 1, 0)", x.card(cards - 1, 0), 3);
            due("card(n, 0)", x.card(cards, 0), BAD);
        }
        due("adds(3) to eight", x.adds(3), FULL);
        due("count(2)", x.count(2), 8);
        for (int cards = 7; cards >= 1; cards--) {
            due("drops(n)", x.drops(cards + 1), BAD);
            due("drops(n less 1)", x.drops(cards), cards);
        }
        due("drops(0) of one", x.drops(0), STATE);
        due("the loom", shape(x), "2 01 00 12");
    }

    private static void holesFromNoneToAll() {
        sentence = "each with a HOLE for some HOOKS; HOLES of all CARDS together";
        due("of none", loom("hooks 6;" + "card 000000;".repeat(8)).count(4), 0);
        LoomCards x = loom("hooks 6;" + "card 111111;".repeat(8));
        due("of all", x.count(4), 48);
        due("punches(7, 5)", x.punches(7, 5), 0);
        due("of all but one", x.count(4), 47);
        x.drops(0);
        due("behind drops(0)", x.count(4), 41);
        x.adds(1);
        due("behind adds(1)", x.count(4), 42);
    }

    private static void theLastCall() {
        sentence = "An object is used for at most 512 calls";
        LoomCards x = new LoomCards();
        for (int call = 1; call <= 511; call++) {
            due("call " + call, x.punches(0, 1), call % 2);
        }
        due("call 512", x.punches(0, 0), 1);
        LoomCards y = new LoomCards();
        for (int call = 1; call <= 511; call++) {
            due("call " + call, y.limits(call % 2 + 1), call == 1 ? 12 : 2 - call % 2);
        }
        due("call 512", y.undo(), 5);
    }

    private static void limitFromOneToTwelve() {
        sentence = "LIMIT is n (1 .. 12): what it was. BAD; STATE: it is that";
        LoomCards x = new LoomCards();
        due("limits(12) at first", x.limits(12), STATE);
        due("limits(0)", x.limits(0), BAD);
        due("limits(13)", x.limits(13), BAD);
        int was = 12;
        for (int n = 1; n <= 12; n++) {
            due("limits(" + n + ")", x.limits(n), was);
            due("limits(" + n + ") again", x.limits(n), STATE);
            due("count(3)", x.count(3), n);
            was = n;
        }
    }

    // ---- CLOTH

    private static void rowsGoRound() {
        sentence = "CLOTH has ROWS 0, 1, .. without end: ROW r is woven by CARD r left over by n";
        for (int cards = 1; cards <= 8; cards++) {
            for (int one = 0; one < cards; one++) {
                LoomCards x = column(zeros(one) + "1" + zeros(cards - one - 1));
                for (int row = 0; row <= 3 * cards; row++) {
                    due("cloth(" + row + ", 0) of " + cards, x.cloth(row, 0), row % cards == one ? 1 : 0);
                }
                for (int row = 9999 - cards; row <= 9999; row++) {
                    due("cloth(" + row + ", 0) of " + cards, x.cloth(row, 0), row % cards == one ? 1 : 0);
                }
                due("cloth(10000, 0)", x.cloth(10000, 0), BAD);
                due("cloth(-1, 0)", x.cloth(-1, 0), BAD);
            }
        }
    }

    private static void anEndIsUpByItsHook() {
        sentence = "An END is UP in a ROW, if its CARD has a HOLE for the END's HOOK, else DOWN";
        LoomCards x = loom("hooks 6;ties 505;card 000001;card 111110;card 100000;");
        due("card(0, 1)", x.card(0, 1), 5);
        due("card(1, 1)", x.card(1, 1), 2);
        due("card(2, 1)", x.card(2, 1), 2);
        due("end(0, 2)", x.end(0, 2), 1);
        due("end(1, 2)", x.end(1, 2), 6);
        LoomCards most = loom("ties 111111111111;" + "card 01;".repeat(8));
        due("all ENDS", most.card(7, 1), 4095);
        due("all ROWS", most.end(11, 2), 255);
    }

    private static void acrossIsNotRound() {
        sentence = "ACROSS of a ROW: of ENDS side by side (0 to E less 1, not round) that are all DOWN in it the most";
        String[] rows = {"1", "0", "11", "10", "01", "00", "0110", "00100", "001000", "000100", "010010", "100001",
            "111111111111", "000000000000", "000000000001", "100000000000", "000001000000", "000000100000",
            "101010101010", "010101010101", "110111111111", "111111111110", "011111111111"};
        int[] want = {0, 1, 0, 1, 1, 2, 1, 2, 3, 3, 2, 4, 0, 12, 11, 11, 6, 6, 1, 1, 1, 1, 1};
        for (int i = 0; i < rows.length; i++) {
            due("ACROSS of " + rows[i], row(rows[i]).card(0, 2), want[i]);
        }
    }

    private static void alongGoesRound() {
        sentence = "ALONG of an END: the most ROWS one behind another in all of which it is UP, or in all of which DOWN";
        for (int cards = 2; cards <= 8; cards++) {
            for (int one = 0; one < cards; one++) {
                String up = zeros(one) + "1" + zeros(cards - one - 1);
                due("ALONG of " + up, column(up).end(0, 1), cards - 1);
                String down = up.replace('1', '2').replace('0', '1').replace('2', '0');
                due("ALONG of " + down, column(down).end(0, 1), cards - 1);
            }
        }
        String[] columns = {"01", "10", "0101", "01010101", "010", "101", "0011", "0110", "1001", "00110", "11011011",
            "11100111", "00011000", "11101111", "00010111", "10000011", "01111100"};
        int[] want = {1, 1, 1, 1, 2, 2, 2, 2, 2, 3, 4, 6, 6, 7, 3, 5, 5};
        for (int i = 0; i < columns.length; i++) {
            due("ALONG of " + columns[i], column(columns[i]).end(0, 1), want[i]);
        }
    }

    private static void alongOfTheSameInAllRows() {
        sentence = "99, if it is the same in all ROWS";
        for (int cards = 1; cards <= 8; cards++) {
            due("DOWN in all of " + cards, column(zeros(cards)).end(0, 1), 99);
            due("UP in all of " + cards, column("1".repeat(cards)).end(0, 1), 99);
        }
        due("of a new loom", new LoomCards().end(1, 1), 99);
    }

    private static void cardsTooLong() {
        sentence = "TOO LONG: CARDS (by the ROW of their number) whose ACROSS is more than LIMIT";
        for (int limit = 1; limit <= 12; limit++) {
            LoomCards as = loom("ties " + zeros(limit) + ";limit " + limit + ";card 00;card 11;");
            due("ACROSS as LIMIT " + limit, as.told(2), 0);
            if (limit < 12) {
                LoomCards more = loom("ties " + zeros(limit + 1) + ";limit " + limit + ";card 00;card 11;");
                due("ACROSS one more than LIMIT " + limit, more.told(2), 1);
            }
        }
        LoomCards last = loom("hooks 1;" + "card 1;".repeat(7) + "card 0;limit 1;");
        due("the last of eight", last.told(2), 128);
        due("all of eight", loom("hooks 1;" + "card 0;".repeat(8) + "limit 1;").told(2), 255);
    }

    private static void endsTooLong() {
        sentence = "TOO LONG: ENDS whose ALONG is more than LIMIT";
        for (int along = 1; along <= 7; along++) {
            LoomCards x = column("1" + zeros(along));
            x.limits(along);
            due("ALONG " + along + " as LIMIT", x.told(3), 0);
            if (along > 1) {
                x.limits(along - 1);
                due("ALONG " + along + ", one more than LIMIT", x.told(3), 1);
            }
        }
        due("99 by LIMIT 12", column("00000000").told(3), 1);
        LoomCards last = loom("ties 000000000001;card 01;card 11;");
        due("the last of twelve", last.told(3), 2048);
        due("all of twelve", loom("ties 000000000001;card 01;").told(3), 4095);
    }

    private static void theShortestRepeat() {
        sentence = "REPEAT: the least p (1 to n) so that each END is in ROW r and p as it is in ROW r, for each r";
        String[] columns = {"0", "1", "00", "01", "000", "010", "0000", "0101", "0110", "0010", "01010", "010010", "010101",
            "001001", "011011", "0100101", "00000000", "01010101", "00110011", "01110111", "00000001", "01010100",
            "10000000", "01101101"};
        int[] want = {1, 1, 1, 2, 1, 3, 1, 2, 4, 4, 5, 3, 2, 3, 3, 7, 1, 2, 4, 4, 8, 8, 8, 8};
        for (int i = 0; i < columns.length; i++) {
            due("REPEAT of " + columns[i], column(columns[i]).told(0), want[i]);
        }
        due("each END: 2 and 3 together",
            loom("card 11;card 00;card 10;card 01;card 10;card 00;").told(0), 6);
        due("a HOOK without ENDS is in no ROW", loom("hooks 2;ties 00;card 10;card 11;card 10;card 10;").told(0), 1);
    }

    private static void theFewestHooks() {
        sentence = "FEWEST HOOKS: how many unlike ones there are of ENDS (two are alike, if both are UP in the same ROWS)";
        due("one END", loom("ties 1;").told(1), 1);
        due("twelve of one HOOK", loom("ties 111111111111;card 01;card 00;").told(1), 1);
        due("HOOKS without HOLES", loom("hooks 6;ties 012345;").told(1), 1);
        due("alike HOOKS", loom("hooks 6;ties 012345;card 110011;card 001100;card 110011;").told(1), 2);
        due("six unlike ones",
            loom("hooks 6;ties 012345543210;card 101010;card 011001;card 000111;").told(1), 6);
        due("unlike in the last ROW alone", loom("card 11;card 00;card 11;card 10;").told(1), 2);
        due("a HOOK without ENDS", loom("hooks 3;ties 001;card 110;card 001;").told(1), 1);
        LoomCards x = loom("hooks 3;ties 012;card 100;card 010;card 001;");
        due("three unlike ones", x.told(1), 3);
        x.drops(0);
        due("three unlike ones still", x.told(1), 3);
        x.drops(0);
        due("two alike ones now", x.told(1), 2);
    }

    private static void hooksToWhichNoEndIsTied() {
        sentence = "HOOKS to which no END is tied (bits; 4)";
        due("none", loom("hooks 6;ties 012345;").told(4), 0);
        due("none of one", loom("hooks 1;").told(4), 0);
        due("all but HOOK 0", loom("hooks 6;ties 0;").told(4), 62);
        due("all but HOOK 5", loom("hooks 6;ties 555555555555;").told(4), 31);
        LoomCards x = new LoomCards();
        x.ties(1, 0);
        due("behind ties(1, 0)", x.told(4), 2);
        x.ties(0, 1);
        due("behind ties(0, 1)", x.told(4), 0);
    }

    // ---- what is done

    private static void aHoleIsMadeOrFilled() {
        sentence = "PUNCHED: a HOLE is made, or filled: 1 if there is a HOLE then, 0 if not";
        LoomCards x = loom("hooks 6;" + "card 000000;".repeat(8));
        int[][] corners = {{0, 0, 1}, {0, 5, 32}, {7, 0, 1}, {7, 5, 32}};
        for (int[] corner : corners) {
            due("made", x.punches(corner[0], corner[1]), 1);
            due("the HOLES", x.card(corner[0], 0), corner[2]);
            due("no other one", x.count(4), 1);
            due("filled", x.punches(corner[0], corner[1]), 0);
            due("no HOLES", x.count(4), 0);
        }
        due("punches(8, 0)", x.punches(8, 0), BAD);
        due("punches(0, 6)", x.punches(0, 6), BAD);
    }

    private static void anEndIsTied() {
        sentence = "TIED: an END to another HOOK: to which HOOK the END was";
        LoomCards x = loom("hooks 6;ties 000000000005;card 000001;");
        due("ties(11, 0)", x.ties(11, 0), 5);
        due("card(0, 1)", x.card(0, 1), 0);
        due("ties(0, 5)", x.ties(0, 5), 0);
        due("card(0, 1)", x.card(0, 1), 1);
        due("ties(0, 5) again", x.ties(0, 5), STATE);
        due("ties(12, 5)", x.ties(12, 5), BAD);
        due("ties(0, 6)", x.ties(0, 6), BAD);
        due("ties(12, 6)", x.ties(12, 6), BAD);
        due("the loom", shape(x), "6 500000000000 000001 12");
    }

    private static void aCardIsAdded() {
        sentence = "ADDED, a CARD with HOLES for HOOKS (bits, 0 to 2 to the H less 1)";
        for (int hooks = 1; hooks <= 6; hooks++) {
            LoomCards x = loom("hooks " + hooks + ";");
            int all = (1 << hooks) - 1;
            due("adds(all)", x.adds(all), 2);
            due("adds(0)", x.adds(0), 3);
            due("adds(all and one)", x.adds(all + 1), BAD);
            due("adds(-1)", x.adds(-1), BAD);
            due("adds(last)", x.adds(1 << hooks - 1), 4);
            due("behind the others", x.card(1, 0), all);
            due("behind the others", x.card(2, 0), 0);
            due("behind the others", x.card(3, 0), 1 << hooks - 1);
        }
    }

    private static void aCardIsDropped() {
        sentence = "DROPPED: a CARD (those behind it move up)";
        String text = "hooks 3;card 000;card 100;card 010;card 110;card 001;card 101;card 011;card 111;";
        for (int card = 0; card < 8; card++) {
            LoomCards x = loom(text);
            due("drops(" + card + ")", x.drops(card), 7);
            for (int other = 0; other < 7; other++) {
                due("card(" + other + ", 0) behind drops(" + card + ")", x.card(other, 0), other < card ? other : other + 1);
            }
            due("card(7, 0)", x.card(7, 0), BAD);
            due("adds(5)", x.adds(5), 8);
            due("card(7, 0)", x.card(7, 0), 5);
        }
    }

    private static void twoCardsAreChanged() {
        sentence = "CHANGED: how many ENDS are in the one's ROW otherwise than in the other's";
        LoomCards x = loom("ties 111111111111;card 00;card 10;card 01;card 11;");
        due("all twelve", x.changes(0, 3), 12);
        due("the loom", shape(x), "2 111111111111 11,10,01,00 12");
        due("none: a HOOK without ENDS", x.changes(3, 1), 0);
        due("the loom", shape(x), "2 111111111111 11,00,01,10 12");
        due("none: alike", x.changes(2, 0), 0);
        due("the loom", shape(x), "2 111111111111 01,00,11,10 12");
        due("changes(1, 1)", x.changes(1, 1), STATE);
        due("changes(4, 4)", x.changes(4, 4), BAD);
        due("changes(0, 4)", x.changes(0, 4), BAD);
        due("changes(4, 0)", x.changes(4, 0), BAD);
        due("one END of three", loom("ties 001;card 00;card 01;").changes(1, 0), 1);
        due("two ENDS of three", loom("ties 001;card 00;card 10;").changes(1, 0), 2);
        LoomCards same = loom("card 10;card 10;");
        due("CARDS with the same HOLES", same.changes(0, 1), 0);
        due("can be UNDONE", same.count(7), 2);
        LoomCards eight = loom("card 10;" + "card 00;".repeat(6) + "card 11;");
        due("the first and the last of eight", eight.changes(7, 0), 1);
        due("the loom", shape(eight), "2 01 11,00,00,00,00,00,00,10 12");
    }

    // ---- UNDONE

    private static void sixAreKnown() {
        sentence = "6 are known, older ones are lost";
        for (int calls = 1; calls <= 30; calls++) {
            LoomCards x = new LoomCards();
            int[] limits = new int[calls + 1];
            limits[0] = 12;
            for (int i = 1; i <= calls; i++) {
                limits[i] = i % 11 + 1;
                x.limits(limits[i]);
            }
            int known = Math.min(calls, 6);
            due("known behind " + calls, x.count(7), known);
            for (int i = 1; i <= known; i++) {
                due("undo() number " + i + " behind " + calls, x.undo(), known - i);
                due("LIMIT then", x.count(3), limits[calls - i]);
                due("known then", x.count(7), known - i);
            }
            due("one more", x.undo(), STATE);
            due("LIMIT then", x.count(3), limits[calls - known]);
        }
    }

    private static void allSevenKindsAreUndone() {
        sentence = "UNDONE: the latest tells(), punches(), ties(), adds(), drops(), changes(), limits()";
        LoomCards x = loom("hooks 3;ties 0121;card 110;card 001;limit 4;");
        String told = shape(x);
        x.punches(1, 0);
        String punched = shape(x);
        x.ties(3, 2);
        String tied = shape(x);
        x.adds(7);
        String added = shape(x);
        x.changes(0, 2);
        String changed = shape(x);
        x.drops(1);
        String dropped = shape(x);
        x.limits(9);
        due("all done", shape(x), "3 0122 111,110 9");
        String[] was = {dropped, changed, added, tied, punched, told};
        for (int i = 0; i < was.length; i++) {
            due("undo()", x.undo(), 5 - i);
            due("the loom", shape(x), was[i]);
        }
        due("undo() of the tells(), lost", x.undo(), STATE);
        due("the loom", shape(x), "3 0121 110,001 4");
        LoomCards y = loom("hooks 6;ties 5;card 111111;limit 1;");
        due("undo() of a tells()", y.undo(), 0);
        due("the loom", shape(y), "2 01 00 12");
    }

    private static void othersAreNotUndone() {
        sentence = "UNDONE: that was not refused";
        LoomCards x = new LoomCards();
        x.type('#');
        x.tells();
        x.clear();
        x.punches(1, 0);
        x.ties(0, 0);
        x.adds(4);
        x.drops(0);
        x.changes(0, 0);
        x.limits(12);
        x.sees(0, 0, 1);
        x.forget();
        x.keep(0);
        x.keep(2);
        x.back(1);
        due("count(7)", x.count(7), 0);
        due("undo()", x.undo(), STATE);
        x.limits(3);
        x.keep(1);
        x.sees(0, 0, 0);
        x.type('c');
        due("undo() of limits(3)", x.undo(), 0);
        due("the loom", shape(x), "2 01 00 12");
        due("SEEN", x.count(5), 1);
        due("letters", x.count(6), 1);
        due("the IMAGE of LIMIT 3", x.back(1), 1);
        due("LIMIT", x.count(3), 3);
    }

    private static void undoneAndDoneAnew() {
        sentence = "UNDONE: how many more may be. STATE: none";
        LoomCards x = new LoomCards();
        x.adds(1);
        x.adds(2);
        x.adds(3);
        due("undo()", x.undo(), 2);
        due("undo()", x.undo(), 1);
        x.adds(0);
        due("the loom", shape(x), "2 01 00,10,00 12");
        due("count(7)", x.count(7), 2);
        due("undo()", x.undo(), 1);
        due("the loom", shape(x), "2 01 00,10 12");
        due("undo()", x.undo(), 0);
        due("the loom", shape(x), "2 01 00 12");
        due("undo()", x.undo(), STATE);
        due("undo() again", x.undo(), STATE);
        x.adds(3);
        due("undo()", x.undo(), 0);
    }

    // ---- MENDED

    private static void mended(LoomCards x, String what, int fewest, int lower, int other) {
        due("mends(-1) of " + what, x.mends(-1), fewest);
        due("mends(0) of " + what, x.mends(0), lower);
        due("mends(1) of " + what, x.mends(1), other);
    }

    private static void mended(String text, int fewest, int lower, int other) {
        mended(loom(text), text, fewest, lower, other);
    }

    private static void mendedByNone() {
        sentence = "MENDED: the fewest places (0 ..) so that nothing is TOO LONG; NONE: not so many";
        mended("card 10;card 01;limit 1;", 0, NONE, NONE);
        mended("hooks 1;card 1;card 0;limit 2;", 0, NONE, NONE);
        mended("ties 000000000000;card 01;card 10;limit 12;", 0, NONE, NONE);
        mended("ties 000000000001;card 01;card 10;limit 11;", 0, NONE, NONE);
        mended("ties 000000000001;card 01;card 10;limit 10;", NONE, NONE, NONE);
    }

    private static void mendedByOne() {
        sentence = "of several one place the least";
        mended("card 10;card 00;", 1, 1, NONE);
        mended("card 01;card 00;", 1, 0, NONE);
        mended("card 01;card 11;", 1, 1, NONE);
        mended("hooks 1;card 0;card 0;card 0;card 0;", 1, 0, NONE);
        mended("hooks 1;card 1;card 1;card 1;card 1;", 1, 0, NONE);
        mended("hooks 1;ties 0;card 1;card 0;card 0;card 0;limit 2;", 1, 1, NONE);
        mended("hooks 1;ties 0;card 1;card 0;card 0;card 0;card 0;limit 2;", 1, 2, NONE);
        mended("hooks 1;ties 0;card 1;card 0;card 0;card 0;limit 1;", 1, 2, NONE);
    }

    private static void mendedByTwo() {
        sentence = "of several two places those of which the lower is least, then the other one";
        mended("card 00;card 00;", 2, 0, 1);
        mended("card 00;card 00;limit 1;", 2, 0, 3);
        mended("hooks 3;ties 012;card 100;card 000;", 2, 1, 2);
        mended("hooks 3;ties 012;card 100;card 000;limit 1;", 2, 2, 4);
        mended("hooks 1;ties 0;card 0;card 0;card 0;card 0;limit 1;", 2, 0, 2);
        mended("hooks 1;ties 0;card 1;card 0;card 0;card 0;card 0;card 0;limit 1;", 2, 2, 4);
    }

    private static void mendedNotByTwo() {
        sentence = "NONE (not by two)";
        mended(new LoomCards(), "a new loom: one CARD is the same in all ROWS", NONE, NONE, NONE);
        mended("hooks 6;ties 012345;card 101010;", NONE, NONE, NONE);
        mended("hooks 3;ties 012;card 000;card 000;", NONE, NONE, NONE);
        mended("hooks 3;ties 012;card 111;card 111;limit 1;", NONE, NONE, NONE);
        mended("hooks 1;ties 0;card 1;card 0;card 1;limit 1;", NONE, NONE, NONE);
        mended("hooks 1;ties 0;" + "card 0;".repeat(6) + "limit 1;", NONE, NONE, NONE);
    }

    private static void whatMendsOneMayNotSpoilAnother() {
        sentence = "so that nothing is TOO LONG";
        mended("hooks 1;ties 000;card 1;card 1;limit 2;", NONE, NONE, NONE);
        mended("hooks 1;ties 000;card 1;card 1;limit 3;", 1, 0, NONE);
        mended("ties 0001;card 11;card 11;card 10;limit 2;", NONE, NONE, NONE);
        mended("ties 0001;card 11;card 11;card 10;limit 3;", 1, 0, NONE);
        mended("ties 01;card 10;card 00;card 10;limit 1;", NONE, NONE, NONE);
        mended("ties 01;card 10;card 01;card 10;card 11;limit 1;", 1, 6, NONE);
    }

    private static void mendedWhereCardsAreTooLong() {
        sentence = "so that nothing is TOO LONG: CARDS, while no END is";
        LoomCards x = loom("ties 0011;card 10;card 01;card 00;limit 3;");
        due("CARDS TOO LONG", x.told(2), 4);
        due("ENDS TOO LONG", x.told(3), 0);
        mended(x, "one CARD", 1, 4, NONE);
        LoomCards y = loom("ties 0011;card 11;card 00;card 00;limit 3;");
        due("CARDS TOO LONG", y.told(2), 6);
        due("ENDS TOO LONG", y.told(3), 0);
        mended(y, "two CARDS", 2, 2, 5);
        LoomCards z = loom("ties 0011;card 11;card 00;card 00;card 00;limit 3;");
        due("CARDS TOO LONG", z.told(2), 14);
        mended(z, "three CARDS", NONE, NONE, NONE);
    }

    private static void placesOfHooksWithoutEndsMendNothing() {
        sentence = "A HOLE's place has a number: H times the CARD, and the HOOK";
        mended("hooks 3;ties 2;card 111;card 111;", 1, 2, NONE);
        mended("hooks 3;ties 1;card 010;card 000;card 000;limit 1;", NONE, NONE, NONE);
        mended("hooks 3;ties 1;card 010;card 000;card 000;card 000;limit 1;", 1, 7, NONE);
    }

    private static void theLastPlaces() {
        sentence = "A HOLE's place has a number: up to H times n, less 1";
        StringBuilder one = new StringBuilder("hooks 6;ties 012345;");
        StringBuilder two = new StringBuilder("hooks 6;ties 012345;");
        for (int row = 0; row < 8; row++) {
            one.append("card ").append(row % 2 == 0 ? "10101" : "01010").append(row == 3 ? "1;" : "0;");
            two.append("card ").append(row % 2 == 0 ? "1010" : "0101").append(row == 3 ? "11;" : "00;");
        }
        LoomCards x = loom(one.toString());
        x.limits(3);
        mended(x, "HOOK 5", 1, 47, NONE);
        LoomCards y = loom(two.toString());
        y.limits(3);
        mended(y, "HOOKS 4, 5", 2, 46, 47);
        y.limits(2);
        mended(y, "HOOKS 4, 5 by LIMIT 2", NONE, NONE, NONE);
        y.limits(7);
        mended(y, "HOOKS 4, 5 by LIMIT 7", 0, NONE, NONE);
        due("mends(-2)", y.mends(-2), BAD);
        due("mends(2)", y.mends(2), BAD);
    }

    // ---- a wrong hole

    private static void eightAreSeenAtMost() {
        sentence = "SEEN (8 at most): how much there is. BAD; FULL: 8";
        LoomCards x = new LoomCards();
        for (int i = 1; i <= 8; i++) {
            due("sees() number " + i, x.sees(0, 0, 0), i);
            due("count(5)", x.count(5), i);
        }
        due("sees() number 9", x.sees(0, 0, 0), FULL);
        due("sees(100, 0, 0)", x.sees(100, 0, 0), BAD);
        due("suspects(0)", x.suspects(0), 2);
        due("forget()", x.forget(), 8);
        due("suspects(0)", x.suspects(0), 3);
        due("sees() anew", x.sees(0, 0, 1), 1);
        due("suspects(0)", x.suspects(0), 1);
        due("forget()", x.forget(), 1);
        due("forget() of none", x.forget(), 0);
    }

    private static void rowsAndEndsThatCanBeSeen() {
        sentence = "SEEN (a ROW 0 .. 99, an END 0 .. 11; 1 UP, 0 DOWN)";
        LoomCards x = new LoomCards();
        due("sees(0, 0, 0)", x.sees(0, 0, 0), 1);
        due("sees(99, 11, 1)", x.sees(99, 11, 1), 2);
        due("sees(99, 11, 0)", x.sees(99, 11, 0), 3);
        due("sees(100, 11, 0)", x.sees(100, 11, 0), BAD);
        due("sees(-1, 11, 0)", x.sees(-1, 11, 0), BAD);
        due("sees(99, 12, 0)", x.sees(99, 12, 0), BAD);
        due("sees(99, -1, 0)", x.sees(99, -1, 0), BAD);
        due("sees(99, 11, 2)", x.sees(99, 11, 2), BAD);
        due("sees(99, 11, -1)", x.sees(99, 11, -1), BAD);
        due("count(5)", x.count(5), 3);
    }

    private static void whatIsSeenGoesRoundWithTheCards() {
        sentence = "SEEN: in a ROW (0 to 99) an END was UP or DOWN";
        for (int cards = 1; cards <= 8; cards++) {
            for (int row = 92; row <= 99; row++) {
                LoomCards x = column(zeros(cards));
                x.sees(row, 0, 1);
                due("suspects(0) by ROW " + row + " of " + cards, x.suspects(0), 1);
                due("suspects(1) by ROW " + row + " of " + cards, x.suspects(1), row % cards);
            }
        }
    }

    private static void howManySuspects() {
        sentence = "SUSPECTS: no place (told as -1), one place PUNCHED (its number); the first of them (-1 is ahead of all)";
        LoomCards x = loom("hooks 6;ties 012345;" + "card 000000;".repeat(8));
        due("nothing SEEN", x.suspects(0), 49);
        due("the first", x.suspects(1), -1);
        x.sees(0, 0, 0);
        due("one SEEN as it is", x.suspects(0), 48);
        due("the first", x.suspects(1), -1);
        x.sees(8, 0, 0);
        due("the same SEEN by another ROW", x.suspects(0), 48);
        x.sees(7, 5, 0);
        due("another one SEEN as it is", x.suspects(0), 47);
        x.sees(99, 5, 1);
        due("one SEEN otherwise", x.suspects(0), 1);
        due("the first", x.suspects(1), 23);
        x.sees(4, 1, 1);
        due("two SEEN otherwise", x.suspects(0), 0);
        due("the first", x.suspects(1), NONE);
        LoomCards y = loom("hooks 6;ties 012345;" + "card 111111;".repeat(8));
        y.sees(95, 5, 0);
        due("one SEEN otherwise", y.suspects(0), 1);
        due("the last place", y.suspects(1), 47);
        y.sees(0, 0, 1);
        due("and one as it is", y.suspects(1), 47);
        y.sees(87, 5, 1);
        due("and the same as it is, too", y.suspects(0), 0);
        due("the first", y.suspects(1), NONE);
    }

    private static void suspectsOfHooksWithoutEnds() {
        sentence = "by how many of these all that was SEEN would be so";
        LoomCards x = loom("hooks 6;ties 3;card 000100;");
        due("nothing SEEN", x.suspects(0), 7);
        x.sees(0, 0, 1);
        due("SEEN as it is", x.suspects(0), 6);
        x.forget();
        x.sees(0, 0, 0);
        due("SEEN otherwise", x.suspects(0), 1);
        due("the first", x.suspects(1), 3);
        x.forget();
        tell(x, "hooks 3;ties 00;");
        x.sees(0, 0, 1);
        x.sees(0, 1, 1);
        due("two ENDS of one HOOK, both otherwise", x.suspects(1), 0);
        x.sees(1, 1, 0);
        due("UP and DOWN in ROWS of one CARD", x.suspects(0), 0);
    }

    private static void asAllStandsWhenItIsAsked() {
        sentence = "as all stands when it is asked";
        LoomCards x = new LoomCards();
        x.sees(1, 0, 1);
        due("of one CARD", x.suspects(1), 0);
        x.adds(0);
        due("of two", x.suspects(1), 2);
        x.changes(0, 1);
        due("of two, changed", x.suspects(1), 2);
        x.punches(1, 0);
        due("of two, PUNCHED", x.suspects(1), -1);
        due("of two, PUNCHED", x.suspects(0), 4);
        x.drops(0);
        due("of one with a HOLE", x.suspects(1), -1);
        x.ties(0, 1);
        due("of an END tied otherwise", x.suspects(1), 1);
        x.undo();
        due("undone", x.suspects(1), -1);
        tell(x, "hooks 6;card 000000;card 000000;");
        due("told anew", x.suspects(1), 6);
    }

    private static void seenOfAnEndThatIsNotThere() {
        sentence = "SEEN of an END that is not there is so by none";
        for (int isUp = 0; isUp < 2; isUp++) {
            LoomCards x = new LoomCards();
            x.sees(0, 2, isUp);
            due("suspects(0)", x.suspects(0), 0);
            due("suspects(1)", x.suspects(1), NONE);
            due("look()", x.look(), NONE);
            tell(x, "ties 000;");
            due("suspects(0), as it is there", x.suspects(0), isUp == 1 ? 1 : 2);
            due("suspects(1)", x.suspects(1), isUp == 1 ? 0 : -1);
            tell(x, "ties 00;");
            due("suspects(0), as it is gone", x.suspects(0), 0);
        }
        LoomCards y = loom("ties 01010101010;");
        y.sees(0, 11, 0);
        due("END 11 of eleven", y.suspects(0), 0);
        LoomCards z = loom("ties 010101010101;");
        z.sees(0, 11, 0);
        due("END 11 of twelve", z.suspects(0), 2);
    }

    private static void lookWhereTheGreaterIsLeast() {
        sentence = "LOOK: 12 times the ROW, and the END; of several the least";
        due("of a new loom", new LoomCards().look(), 0);
        LoomCards x = loom("ties 000000000001;card 00;card 01;card 10;card 11;");
        int[] due = {11, 12, 23, 24, 35, 36, 47, NONE};
        for (int i = 0; i < 8; i++) {
            x.sees(i / 2, i % 2 == 0 ? 0 : 11, x.cloth(i / 2, i % 2 == 0 ? 0 : 11));
            due("look() behind " + (i + 1), x.look(), due[i]);
        }
        LoomCards y = column("00000000");
        for (int row = 0; row < 7; row++) {
            due("look() of ROW " + row, y.look(), 12 * row);
            y.sees(row, 0, 0);
        }
        due("look() of the last ROW", y.look(), 84);
        y.sees(7, 0, 0);
        due("none is left", y.look(), NONE);
        LoomCards z = loom("hooks 3;ties 2210;");
        due("of several the least", z.look(), 0);
        z.sees(0, 1, 0);
        due("END 0 tells what END 1 has told", z.look(), 2);
    }

    private static void lookOfOneOrNone() {
        sentence = "NONE (one can be at most)";
        LoomCards x = loom("card 00;card 00;");
        x.sees(1, 1, 1);
        due("one SUSPECT", x.suspects(0), 1);
        due("look()", x.look(), NONE);
        x.sees(1, 1, 0);
        due("no SUSPECT", x.suspects(0), 0);
        due("look()", x.look(), NONE);
        LoomCards y = column("0");
        due("two SUSPECTS", y.suspects(0), 2);
        due("look()", y.look(), 0);
        y.sees(0, 0, 0);
        due("no place alone", y.suspects(1), -1);
        due("look()", y.look(), NONE);
    }

    private static void lookWhereNothingTellsThemApart() {
        sentence = "LOOK: that at which the greater of two is least; of several the least";
        LoomCards x = loom("ties 0;card 00;");
        x.sees(0, 0, 0);
        due("two SUSPECTS", x.suspects(0), 2);
        due("look()", x.look(), 0);
        LoomCards y = loom("ties 11;card 00;card 01;card 11;");
        y.sees(0, 0, 0);
        y.sees(1, 0, 1);
        due("look() where one can be told", y.look(), 24);
        y.sees(2, 0, 1);
        due("four SUSPECTS", y.suspects(0), 4);
        due("look()", y.look(), 0);
    }

    // ---- IMAGES

    private static void imagesKeepAllThat1Tells() {
        sentence = "IMAGES 0, 1 keep all that 1 tells but THE TEXT";
        LoomCards x = loom("hooks 6;ties 012345012345;" + "card 100001;".repeat(7) + "limit 7;");
        x.adds(63);
        due("keep(0)", x.keep(0), 8);
        tell(x, "hooks 1;ties 0;limit 1;");
        due("keep(1)", x.keep(1), 1);
        tell(x, "");
        String full = "6 012345012345 100001,100001,100001,100001,100001,100001,100001,111111 7";
        due("back(0)", x.back(0), 8);
        due("the loom", shape(x), full);
        due("back(1)", x.back(1), 1);
        due("the loom", shape(x), "1 0 0 1");
        x.punches(0, 0);
        x.limits(2);
        due("back(1), once more", x.back(1), 1);
        due("the loom", shape(x), "1 0 0 1");
        due("back(0), once more", x.back(0), 8);
        due("the loom", shape(x), full);
    }

    private static void imagesAreKeptAnew() {
        sentence = "An IMAGE is kept: n. BAD";
        LoomCards x = new LoomCards();
        due("keep(0)", x.keep(0), 1);
        x.adds(3);
        due("keep(0) again", x.keep(0), 2);
        x.adds(1);
        due("back(1)", x.back(1), STATE);
        due("keep(2)", x.keep(2), BAD);
        due("keep(-1)", x.keep(-1), BAD);
        due("back(0)", x.back(0), 2);
        due("the loom", shape(x), "2 01 00,11 12");
    }

    private static void nothingCanBeUndoneBehindBack() {
        sentence = "nothing can be UNDONE behind back()";
        LoomCards x = new LoomCards();
        x.keep(0);
        for (int i = 1; i <= 7; i++) {
            x.adds(i % 4);
        }
        due("count(7)", x.count(7), 6);
        due("back(0)", x.back(0), 1);
        due("count(7)", x.count(7), 0);
        due("undo()", x.undo(), STATE);
        due("the loom", shape(x), "2 01 00 12");
        for (int i = 1; i <= 7; i++) {
            x.adds(0);
            due("count(7)", x.count(7), Math.min(i, 6));
        }
        for (int i = 5; i >= 0; i--) {
            due("undo()", x.undo(), i);
        }
        due("undo()", x.undo(), STATE);
        due("the loom", shape(x), "2 01 00,00 12");
    }

    private static void nothingElseComesBack() {
        sentence = "IMAGES keep nothing else";
        LoomCards x = new LoomCards();
        x.type('c');
        x.sees(0, 0, 0);
        x.keep(0);
        x.type('a');
        x.sees(0, 1, 0);
        due("back(0)", x.back(0), 1);
        due("letters", x.count(6), 2);
        due("SEEN", x.count(5), 2);
        due("suspects(0)", x.suspects(0), 1);
        x.forget();
        x.clear();
        x.back(0);
        due("letters", x.count(6), 0);
        due("SEEN", x.count(5), 0);
    }

    private static void imagesStayWhateverIsDone() {
        sentence = "back: All of that becomes as an IMAGE has it";
        LoomCards x = loom("hooks 3;ties 012;card 110;card 001;limit 3;");
        x.keep(1);
        x.punches(0, 0);
        x.ties(0, 2);
        x.adds(7);
        x.drops(1);
        x.changes(0, 1);
        x.limits(5);
        while (x.undo() > 0) {
            x.clear();
        }
        x.forget();
        due("back(1)", x.back(1), 2);
        due("the loom", shape(x), "3 012 110,001 3");
        due("back(1) again", x.back(1), 2);
        due("back(0)", x.back(0), STATE);
        due("back(2)", x.back(2), BAD);
        due("back(-1)", x.back(-1), BAD);
    }

    private static final Runnable[] SENTENCES = {
        TermsBoundariesTest::aNewLoom, TermsBoundariesTest::hooksFromOneToSix, TermsBoundariesTest::endsFromOneToTwelve,
        TermsBoundariesTest::cardsFromOneToEight, TermsBoundariesTest::holesFromNoneToAll,
        TermsBoundariesTest::theLastCall, TermsBoundariesTest::limitFromOneToTwelve, TermsBoundariesTest::rowsGoRound,
        TermsBoundariesTest::anEndIsUpByItsHook, TermsBoundariesTest::acrossIsNotRound,
        TermsBoundariesTest::alongGoesRound, TermsBoundariesTest::alongOfTheSameInAllRows,
        TermsBoundariesTest::cardsTooLong, TermsBoundariesTest::endsTooLong, TermsBoundariesTest::theShortestRepeat,
        TermsBoundariesTest::theFewestHooks, TermsBoundariesTest::hooksToWhichNoEndIsTied,
        TermsBoundariesTest::aHoleIsMadeOrFilled, TermsBoundariesTest::anEndIsTied, TermsBoundariesTest::aCardIsAdded,
        TermsBoundariesTest::aCardIsDropped, TermsBoundariesTest::twoCardsAreChanged, TermsBoundariesTest::sixAreKnown,
        TermsBoundariesTest::allSevenKindsAreUndone, TermsBoundariesTest::othersAreNotUndone,
        TermsBoundariesTest::undoneAndDoneAnew, TermsBoundariesTest::mendedByNone, TermsBoundariesTest::mendedByOne,
        TermsBoundariesTest::mendedByTwo, TermsBoundariesTest::mendedNotByTwo,
        TermsBoundariesTest::whatMendsOneMayNotSpoilAnother, TermsBoundariesTest::mendedWhereCardsAreTooLong,
        TermsBoundariesTest::placesOfHooksWithoutEndsMendNothing,
        TermsBoundariesTest::theLastPlaces, TermsBoundariesTest::eightAreSeenAtMost,
        TermsBoundariesTest::rowsAndEndsThatCanBeSeen, TermsBoundariesTest::whatIsSeenGoesRoundWithTheCards,
        TermsBoundariesTest::howManySuspects, TermsBoundariesTest::suspectsOfHooksWithoutEnds,
        TermsBoundariesTest::asAllStandsWhenItIsAsked, TermsBoundariesTest::seenOfAnEndThatIsNotThere,
        TermsBoundariesTest::lookWhereTheGreaterIsLeast, TermsBoundariesTest::lookOfOneOrNone,
        TermsBoundariesTest::lookWhereNothingTellsThemApart, TermsBoundariesTest::imagesKeepAllThat1Tells,
        TermsBoundariesTest::imagesAreKeptAnew, TermsBoundariesTest::nothingCanBeUndoneBehindBack,
        TermsBoundariesTest::nothingElseComesBack, TermsBoundariesTest::imagesStayWhateverIsDone,
    };

    public static void main(String[] args) {
        for (Runnable test : SENTENCES) {
            test.run();
        }
        System.out.println(wrong == 0 ? "all answers are as due" : wrong + " answers are not as due");
        if (wrong != 0) {
            System.exit(1);
        }
    }
}
