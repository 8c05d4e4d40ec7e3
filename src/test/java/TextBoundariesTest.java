/** THE TEXT, its TOKENS and FAULT: each sentence of the document that names a boundary case has a test of its own. */
public final class TextBoundariesTest {
    private static final int BAD = -1, FULL = -3;
    private static final int MOST_LETTERS = 120;
    private static final String BEFORE = "hooks 3;ties 0210;card 101;card 010;limit 5;";
    private static final String SHAPE_BEFORE = "3 0210 101,010 5";

    private static int wrong = 0;
    private static String sentence = "";

    private static void due(String what, Object got, Object want) {
        if (!got.equals(want)) {
            wrong++;
            System.out.println("'" + sentence + "': " + what + " is " + got + ", due is " + want);
        }
    }

    private static void type(LoomCards x, String text) {
        for (char letter : text.toCharArray()) {
            x.type(letter);
        }
    }

    /** H, the HOOK of each END, the HOLES of each CARD (HOOK 0 first), LIMIT. */
    private static String shape(LoomCards x) {
        int hooks = x.count(0);
        int ends = x.count(1);
        int cards = x.count(2);
        StringBuilder shape = new StringBuilder().append(hooks).append(' ');
        for (int end = 0; end < ends; end++) {
            shape.append(x.end(end, 0));
        }
        for (int card = 0; card < cards; card++) {
            int holes = x.card(card, 0);
            shape.append(card == 0 ? ' ' : ',');
            for (int hook = 0; hook < hooks; hook++) {
                shape.append(holes >> hook & 1);
            }
        }
        return shape.append(' ').append(x.count(3)).toString();
    }

    /** The text is told behind another one, of which nothing may be left. */
    private static void told(String text, int items, String want) {
        LoomCards x = new LoomCards();
        type(x, BEFORE);
        x.tells();
        type(x, text);
        due("tells() of \"" + text + "\"", x.tells(), items);
        due("the loom told by \"" + text + "\"", shape(x), want);
        due("letters behind \"" + text + "\"", x.count(6), 0);
        due("what may be UNDONE behind \"" + text + "\"", x.count(7), 2);
    }

    private static void fault(String text, int place) {
        LoomCards x = new LoomCards();
        type(x, BEFORE);
        x.tells();
        x.sees(7, 3, 1);
        type(x, text);
        String call = "tells() of \"" + text + "\"";
        due(call, x.tells(), -10 - place);
        due(call + ": the loom then", shape(x), SHAPE_BEFORE);
        due(call + ": letters then", x.count(6), text.length());
        due(call + ": SEEN then", x.count(5), 1);
        due(call + ": what may be UNDONE then", x.count(7), 1);
        due(call + " again", x.tells(), -10 - place);
    }

    private static String blanks(int howMany) {
        return " ".repeat(howMany);
    }

    private static void aHundredAndTwentyLettersAtMost() {
        sentence = "120 letters at most";
        LoomCards x = new LoomCards();
        for (int i = 1; i <= MOST_LETTERS; i++) {
            due("type() as number " + i, x.type((blanks(112) + "limit 7;").charAt(i - 1)), i);
        }
        due("count(6)", x.count(6), MOST_LETTERS);
        due("type() as number 121", x.type(';'), FULL);
        due("count(6)", x.count(6), MOST_LETTERS);
        due("tells() of all 120", x.tells(), 1);
        due("LIMIT", x.count(3), 7);
        due("type() behind it", x.type(0), 1);
        told(blanks(112) + "limit 3;", 1, "2 01 00 3");
        told("limit 3;" + blanks(112), 1, "2 01 00 3");
        told(blanks(MOST_LETTERS), 0, "2 01 00 12");
    }

    private static void whatComesBehindAFullTextIsNotInIt() {
        sentence = "FULL: 120";
        LoomCards x = new LoomCards();
        type(x, blanks(113) + "limit 3");
        due("type(;)", x.type(';'), FULL);
        due("tells()", x.tells(), -130);
        due("clear()", x.clear(), MOST_LETTERS);
        due("type(;)", x.type(';'), 1);
        due("tells()", x.tells(), -10);
    }

    private static void aLetterIs0To255() {
        sentence = "A letter (0 .. 255) comes to THE TEXT: how many it has. BAD";
        LoomCards x = new LoomCards();
        due("type(0)", x.type(0), 1);
        due("type(255)", x.type(255), 2);
        int[] none = {-1, 256, -256, 256 + ' ', 65536 + ' ', -65536, Integer.MIN_VALUE, Integer.MAX_VALUE};
        for (int letter : none) {
            due("type(" + letter + ")", x.type(letter), BAD);
            due("count(6)", x.count(6), 2);
        }
        x.clear();
        type(x, blanks(MOST_LETTERS));
        due("type(-1) to 120", x.type(-1), BAD);
        due("type(256) to 120", x.type(256), BAD);
        due("type(0) to 120", x.type(0), FULL);
        due("type(255) to 120", x.type(255), FULL);
    }

    private static void clearTellsHowManyItHad() {
        sentence = "THE TEXT is empty: how many letters it had";
        LoomCards x = new LoomCards();
        due("clear() of none", x.clear(), 0);
        x.type('x');
        due("clear() of one", x.clear(), 1);
        due("clear() again", x.clear(), 0);
        type(x, "x".repeat(MOST_LETTERS));
        due("clear() of all", x.clear(), MOST_LETTERS);
        due("count(6)", x.count(6), 0);
        due("tells()", x.tells(), 0);
        type(x, "limit 3");
        x.clear();
        type(x, ";");
        due("tells() of what came behind", x.tells(), -10);
    }

    private static void blanksMayStandAheadBetweenAndBehind() {
        sentence = "blanks (32) may stand ahead of, between and behind TOKENS";
        told("hooks3;ties012;card101;cloth010;limit7;", 5, "3 012 101,010 7");
        told(" hooks 3 ; ties 012 ; card 101 ; cloth 010 ; limit 7 ; ", 5, "3 012 101,010 7");
        told("   hooks   3   ;   ties   012   ;   card   101   ;   ", 3, "3 012 101 12");
        told(" card 11;", 1, "2 01 11 12");
        told("card  11;", 1, "2 01 11 12");
        told("card 11 ;", 1, "2 01 11 12");
        told("card 11; ", 1, "2 01 11 12");
        told("card 11; limit 2;", 2, "2 01 11 2");
    }

    private static void noOtherLetterIsABlank() {
        sentence = "blanks (32)";
        for (int letter : new int[] {0, 9, 10, 11, 12, 13, 31, 33, 95, 127, 128, 160, 255}) {
            String sign = String.valueOf((char) letter);
            fault(sign, 0);
            fault(sign + "card 11;", 0);
            fault("card" + sign + "11;", 4);
            fault("card 11" + sign + ";", 7);
            fault("card 11;" + sign, 8);
            fault("card 11;" + sign + "limit 3;", 8);
        }
    }

    private static void aBlankPartsTokens() {
        sentence = "needed between two TOKENS of figures alone";
        told("limit 12;", 1, "2 01 00 12");
        fault("limit 1 2;", 8);
        fault("hooks 2 2;", 8);
        fault("ties 0 1;", 7);
        fault("card 1 1;", 5);
        fault("card 11 11;", 8);
        fault("cloth 11 11;", 9);
        fault("ca rd 11;", 0);
        fault("hook s 2;", 0);
    }

    private static void noItemsAreATextToo() {
        sentence = "by ITEMS (none, too)";
        told("", 0, "2 01 00 12");
        told(" ", 0, "2 01 00 12");
        LoomCards x = new LoomCards();
        due("tells() of nothing", x.tells(), 0);
        due("count(7)", x.count(7), 1);
        due("undo()", x.undo(), 0);
    }

    private static void eachItemIsEndedBySemicolon() {
        sentence = "each ended by ;";
        fault(";", 0);
        fault(" ;", 1);
        fault(";card 11;", 0);
        fault("card 11;;", 8);
        fault("card 11; ;", 9);
        fault("card;", 4);
        fault("card ;", 5);
        fault("card 11 card 11;", 8);
        fault("card 11card 11;", 7);
        fault("hooks 3 ties 012;", 8);
        fault("limit 3 limit 4;", 8);
        fault("card 11:", 7);
        fault("card 11,card 11;", 7);
    }

    private static void hooksAreOneToSix() {
        sentence = "hooks N (H), H 1 to 6";
        told("hooks 1;", 1, "1 00 0 12");
        told("hooks 2;", 1, "2 01 00 12");
        told("hooks 3;", 1, "3 01 000 12");
        told("hooks 4;", 1, "4 01 0000 12");
        told("hooks 5;", 1, "5 01 00000 12");
        told("hooks 6;", 1, "6 01 000000 12");
        for (String n : new String[] {"0", "7", "8", "9", "10", "16", "61", "66", "99"}) {
            fault("hooks " + n + ";", 6);
        }
    }

    private static void hooksOnceAtMost() {
        sentence = "hooks once at most";
        fault("hooks 2;hooks 2;", 8);
        fault("hooks 2;hooks 3;", 8);
        fault("hooks 2;limit 3;hooks 2;", 16);
        fault("hooks 2;hooks", 8);
        fault("hooks 2; hooks 9;", 9);
    }

    private static void hooksAheadOfTheOthers() {
        sentence = "hooks ahead of any ties, card, cloth";
        fault("ties 01;hooks 2;", 8);
        fault("card 01;hooks 2;", 8);
        fault("cloth 01;hooks 2;", 9);
        fault("ties 01;limit 3;hooks 2;", 16);
        fault("cloth 01;hooks", 9);
        fault("ties 01;hooks 7;", 8);
        told("limit 3;hooks 3;", 2, "3 01 000 3");
        told("limit 3;limit 4;hooks 1;ties 000;card 1;", 5, "1 000 1 4");
    }

    private static void tiesAreOneToTwelveFigures() {
        sentence = "ties F (1 to 12 figures, as many as ENDS)";
        for (int ends = 1; ends <= 12; ends++) {
            String figures = "010110100101".substring(0, ends);
            told("ties " + figures + ";", 1, "2 " + figures + " 00 12");
        }
        fault("ties;", 4);
        fault("ties ;", 5);
        fault("ties 0000000000000;", 5);
        fault("ties 00000000000000000000;", 5);
        fault("ties " + "0".repeat(115), 5);
    }

    private static void tiesAreLessThanH() {
        sentence = "the HOOK of each, each less than H";
        for (int hooks = 1; hooks <= 6; hooks++) {
            String told = "hooks " + hooks + ";";
            int last = hooks - 1;
            String ties = "0" + last + "0" + last;
            told(told + "ties " + ties + ";", 2, hooks + " " + ties + " " + "0".repeat(hooks) + " 12");
            fault(told + "ties " + hooks + "00;", 13);
            fault(told + "ties 0" + hooks + "0;", 13);
            fault(told + "ties 00" + hooks + ";", 13);
            fault(told + "ties 9;", 13);
        }
        fault("ties 2;", 5);
        fault("limit 6;ties 2;", 13);
    }

    private static void tiesOnceAtMost() {
        sentence = "ties once at most";
        fault("ties 01;ties 01;", 8);
        fault("ties 01;ties 10;", 8);
        fault("ties 01;limit 3;ties 01;", 16);
        fault("ties 01;ties", 8);
    }

    private static void tiesAheadOfCards() {
        sentence = "ties ahead of any card, cloth";
        fault("card 01;ties 01;", 8);
        fault("cloth 01;ties 01;", 9);
        fault("card 01;limit 3;ties 01;", 16);
        fault("cloth 01;ties", 9);
        fault("card 01;ties 9;", 8);
        told("limit 3;ties 10;", 2, "2 10 00 3");
    }

    private static void aCardHasHFigures() {
        sentence = "card F (H figures 0, 1, of HOOK 0 on: 1 a HOLE)";
        for (int hooks = 1; hooks <= 6; hooks++) {
            String told = "hooks " + hooks + ";";
            String ties = hooks == 1 ? " 00 " : " 01 ";
            String first = "1" + "0".repeat(hooks - 1);
            String last = "0".repeat(hooks - 1) + "1";
            String all = "1".repeat(hooks);
            told(told + "card " + first + ";card " + last + ";card " + all + ";", 4,
                hooks + ties + first + "," + last + "," + all + " 12");
            fault(told + "card " + all + "1;", 13);
            fault(told + "card " + all + "0;", 13);
            fault(told + "card " + "0".repeat(hooks - 1) + ";", 13);
        }
        LoomCards x = new LoomCards();
        type(x, "hooks 6;card 100000;card 000001;");
        x.tells();
        due("HOOK 0", x.card(0, 0), 1);
        due("HOOK 5", x.card(1, 0), 32);
    }

    private static void aCardsFiguresAre0And1() {
        sentence = "card F (figures 0, 1)";
        for (int figure = 2; figure <= 9; figure++) {
            fault("card 0" + figure + ";", 5);
            fault("card " + figure + "0;", 5);
        }
        fault("hooks 6;card 000002;", 13);
        fault("hooks 6;card 211111;", 13);
    }

    private static void clothHasEFigures() {
        sentence = "cloth F (E figures 0, 1, of END 0 on)";
        told("cloth 10;cloth 01;cloth 11;cloth 00;", 4, "2 01 10,01,11,00 12");
        told("ties 1;cloth 1;cloth 0;", 3, "2 1 01,00 12");
        told("ties 010101010101;cloth 101010101010;", 2, "2 010101010101 10 12");
        told("hooks 6;ties 543210;cloth 100110;", 3, "6 543210 011001 12");
        fault("cloth 1;", 6);
        fault("cloth 111;", 6);
        fault("cloth ;", 6);
        fault("ties 1;cloth 11;", 13);
        fault("ties 1;cloth ;", 13);
        fault("ties 000000000000;cloth 00000000000;", 24);
        fault("ties 000000000000;cloth 0000000000000;", 24);
        fault("hooks 3;cloth 000;", 14);
        for (int figure = 2; figure <= 9; figure++) {
            fault("cloth 0" + figure + ";", 6);
            fault("cloth " + figure + "0;", 6);
        }
    }

    private static void hooksWithoutEndsHaveNoHoleByCloth() {
        sentence = "a HOLE for each HOOK whose ENDS have 1, none for HOOKS without ENDS";
        told("hooks 6;cloth 11;", 2, "6 01 110000 12");
        told("hooks 6;ties 5;cloth 1;card 111110;", 4, "6 5 000001,111110 12");
        told("hooks 4;ties 1331;cloth 1001;cloth 0110;cloth 1111;cloth 0000;", 6, "4 1331 0100,0001,0101,0000 12");
        told("hooks 1;cloth 11;cloth 00;", 3, "1 00 1,0 12");
    }

    private static void clothOfUnlikeEndsCantBe() {
        sentence = "of cloth also one whose figures for two ENDS of one HOOK are unlike";
        fault("hooks 1;cloth 01;", 14);
        fault("hooks 1;cloth 10;", 14);
        fault("ties 00;cloth 01;", 14);
        fault("ties 010;cloth 100;", 15);
        fault("ties 010;cloth 001;", 15);
        fault("ties 010000000001;cloth 010000000000;", 24);
        fault("ties 010000000001;cloth 000000000001;", 24);
        fault("hooks 6;ties 500000000005;cloth 100000000000;", 32);
        fault("hooks 6;ties 500000000005;cloth 000000000001;", 32);
        told("ties 010000000001;cloth 010000000001;", 2, "2 010000000001 01 12");
        told("ties 010000000001;cloth 101111111110;", 2, "2 010000000001 10 12");
    }

    private static void theNextCardComesBehind() {
        sentence = "card F, cloth F (the next CARD)";
        told("card 10;", 1, "2 01 10 12");
        told("card 00;", 1, "2 01 00 12");
        told("cloth 01;card 10;cloth 11;card 00;", 4, "2 01 01,10,11,00 12");
        told("card 10;card 10;", 2, "2 01 10,10 12");
    }

    private static void eightCardsAtMost() {
        sentence = "a ninth card or cloth at that word";
        String eightCards = "card 10;".repeat(8);
        String eightCloths = "hooks 1;" + "cloth 11;".repeat(8);
        told(eightCards, 8, "2 01 10,10,10,10,10,10,10,10 12");
        told(eightCloths, 9, "1 00 1,1,1,1,1,1,1,1 12");
        told(eightCards + "limit 3;", 9, "2 01 10,10,10,10,10,10,10,10 3");
        told("card 01;cloth 11;".repeat(4), 8, "2 01 01,11,01,11,01,11,01,11 12");
        fault(eightCards + "card 10;", 64);
        fault(eightCards + "cloth 10;", 64);
        fault(eightCards + "card", 64);
        fault(eightCards + "cloth", 64);
        fault(eightCards + "card 7", 64);
        fault(eightCards + " limit 3; card 10;", 74);
        fault(eightCloths + "card 1;", 80);
        fault(eightCloths + "cloth 11;", 80);
        fault("card 01;cloth 11;".repeat(4) + "cloth 01;", 68);
        fault(eightCards + "ties 01;", 64);
        fault(eightCards + "hooks 2;", 64);
    }

    private static void ofLimitsTheLater() {
        sentence = "limit N (told again: the later)";
        told("limit 1;", 1, "2 01 00 1");
        told("limit 3;limit 12;", 2, "2 01 00 12");
        told("limit 12;limit 3;", 2, "2 01 00 3");
        told("limit 2;hooks 3;limit 4;ties 012;limit 6;card 100;limit 8;cloth 010;limit 10;", 9, "3 012 100,010 10");
        told("limit 5;limit 5;limit 5;limit 5;limit 5;limit 5;limit 5;limit 5;limit 5;limit 5;limit 5;", 11, "2 01 00 5");
        fault("limit 3;limit 0;", 14);
    }

    private static void limitIsOneToTwelve() {
        sentence = "LIMIT (1 to 12)";
        for (int n = 1; n <= 12; n++) {
            told("limit " + n + ";", 1, "2 01 00 " + n);
        }
        for (String n : new String[] {"0", "13", "14", "19", "20", "21", "90", "99"}) {
            fault("limit " + n + ";", 6);
        }
    }

    private static void aNumberHasTwoFiguresAtMost() {
        sentence = "an N that has more than two figures";
        String[] many = {"100", "111", "112", "120", "999", "4294967297", "4294967298", "18446744073709551617"};
        for (String n : many) {
            fault("limit " + n + ";", 6);
            fault("hooks " + n + ";", 6);
        }
    }

    private static void aNumberHasNo0Ahead() {
        sentence = "or a 0 ahead of another one";
        for (String n : new String[] {"00", "01", "02", "06", "09", "001", "002", "010", "012"}) {
            fault("limit " + n + ";", 6);
            fault("hooks " + n + ";", 6);
        }
    }

    private static void whatIsNotToldIsAsAtFirst() {
        sentence = "What is not told is as at first";
        told("hooks 4;", 1, "4 01 0000 12");
        told("ties 110;", 1, "2 110 00 12");
        told("card 11;", 1, "2 01 11 12");
        told("cloth 01;", 1, "2 01 01 12");
        told("limit 4;", 1, "2 01 00 4");
        told("hooks 1;", 1, "1 00 0 12");
        told("hooks 1;card 1;limit 1;", 3, "1 00 1 1");
    }

    private static void nothingIsLeftOfATextToldAheadOfAFault() {
        sentence = "THE TEXT tells all anew";
        LoomCards x = new LoomCards();
        type(x, "hooks 6;ties 555555555555;card 111111;card 111111;limit 1;hook");
        due("tells()", x.tells(), -10 - 58);
        due("the loom", shape(x), "2 01 00 12");
        x.clear();
        due("tells() of nothing", x.tells(), 0);
        due("the loom", shape(x), "2 01 00 12");
        type(x, "hooks 6;");
        due("tells()", x.tells(), 1);
        due("the loom", shape(x), "6 01 000000 12");
    }

    private static void aWordThatIsNoneOfThese() {
        sentence = "of a word that is none of these, that TOKEN's";
        for (String word : new String[] {"hooks", "ties", "card", "cloth", "limit"}) {
            String rest = " 01;";
            fault(word.substring(1) + rest, 0);
            fault(word.substring(0, word.length() - 1) + rest, 0);
            fault("a" + word + rest, 0);
            fault("z" + word + rest, 0);
            fault(word + "a" + rest, 0);
            fault(word + "z" + rest, 0);
            fault(word + word + rest, 0);
            for (int i = 0; i < word.length(); i++) {
                fault("  " + word.substring(0, i) + "q" + word.substring(i + 1) + rest, 2);
            }
        }
        fault("x", 0);
        fault("card x;", 5);
        fault("card 11x;", 7);
        fault("card 11;x", 8);
        fault("card 11; holes 1;", 9);
        fault("abcdefghijklmnopqrstuvwxyz", 0);
    }

    private static boolean isWordLetter(int letter) {
        return letter >= 'a' && letter <= 'z';
    }

    private static boolean isFigure(int letter) {
        return letter >= '0' && letter <= '9';
    }

    private static void anyOtherLetter() {
        sentence = "of any other letter, that TOKEN's";
        for (int letter = 0; letter <= 255; letter++) {
            String sign = String.valueOf((char) letter);
            if (letter == ' ') {
                continue;
            }
            fault(sign, 0);
            fault("card 11; " + sign, 9);
            fault("card" + sign + "11;", isWordLetter(letter) ? 0 : 4);
            fault("card 11" + sign + ";", isFigure(letter) ? 5 : letter == ';' ? 8 : 7);
            fault("card 1" + sign + "1;", 5);
        }
    }

    private static void capitalsAreNoLettersOfWords() {
        sentence = "rows of letters a to z";
        fault("Card 11;", 0);
        fault("CARD 11;", 0);
        fault("carD 11;", 0);
        fault("card 11;Limit 3;", 8);
        fault("card" + (char) 96 + "11;", 4);
        fault("card" + (char) 123 + "11;", 4);
        fault("card" + (char) 225 + "11;", 4);
        fault("card" + '/' + "11;", 4);
        fault("card" + ':' + "11;", 4);
    }

    private static void anotherKindOfTokenCantStandThere() {
        sentence = "the first TOKEN that can't stand there";
        fault("11;", 0);
        fault("2 hooks;", 0);
        fault("card card 11;", 5);
        fault("card limit;", 5);
        fault("hooks ties 01;", 6);
        fault("hooks;", 5);
        fault("limit;", 5);
        fault("cloth;", 5);
        fault("cloth card;", 6);
    }

    private static void ofSeveralFaultsTheFirst() {
        sentence = "of the first TOKEN";
        fault("card 2;hook 3;#", 5);
        fault("# card 2;", 0);
        fault("hooks 7;ties 9;", 6);
        fault("ties 01;hooks 9;card 3;", 8);
        fault("cards 22;#", 0);
        fault("card 11;card 1;card", 13);
        fault("limit 13", 6);
        fault("card 111", 5);
        fault("card", 4);
    }

    private static void aTextThatEndsTooEarly() {
        sentence = "the text's length, if it ends too early";
        int[] due = {0, -10, -10, -10, -10, -15, -16, -17, 1, -18, -18, -18, -22, -23, -23, -23, -26, 2};
        String text = "hooks 3;card 101;";
        for (int length = 0; length <= text.length(); length++) {
            LoomCards x = new LoomCards();
            type(x, text.substring(0, length));
            due("tells() of \"" + text.substring(0, length) + "\"", x.tells(), due[length]);
        }
        fault("hooks", 5);
        fault("ties", 4);
        fault("cloth", 5);
        fault("limit", 5);
        fault("ties 0", 6);
        fault("ties 01", 7);
        fault("limit 1", 7);
        fault("limit 12", 8);
        fault("cloth 01", 8);
    }

    private static void blanksAtTheEndAreLettersToo() {
        sentence = "the text's length";
        fault("hooks ", 6);
        fault("hooks 3 ", 8);
        fault("hooks 3   ", 10);
        fault("card 11; card   ", 16);
        fault("card" + blanks(116), 120);
        fault("card 11" + blanks(113), 120);
        fault(blanks(113) + "card 11", 120);
        fault(blanks(116) + "card", 120);
        fault(blanks(119) + ";", 119);
        fault(blanks(119) + "c", 119);
    }

    private static void aTextWithAFaultStays() {
        sentence = "-10 less FAULT: nothing changes, THE TEXT stays";
        LoomCards x = new LoomCards();
        type(x, "hooks 3");
        due("tells()", x.tells(), -17);
        due("type(;)", x.type(';'), 8);
        due("tells()", x.tells(), 1);
        due("H", x.count(0), 3);
        due("letters", x.count(6), 0);
        type(x, "#");
        due("FAULT 0", x.tells(), -10);
        due("may be UNDONE", x.count(7), 1);
        due("undo()", x.undo(), 0);
        due("FAULT 0, still", x.tells(), -10);
        due("clear()", x.clear(), 1);
    }

    private static void whatWasSeenAndImagesStay() {
        sentence = "A text told: what was SEEN, IMAGES stay";
        LoomCards x = new LoomCards();
        type(x, BEFORE);
        x.tells();
        x.keep(1);
        x.sees(0, 3, 1);
        x.sees(1, 1, 0);
        type(x, "hooks 1;ties 0000;");
        due("tells()", x.tells(), 2);
        due("SEEN", x.count(5), 2);
        due("suspects(0)", x.suspects(0), 0);
        due("back(0), never kept", x.back(0), -2);
        due("back(1)", x.back(1), 2);
        due("the loom", shape(x), SHAPE_BEFORE);
        due("SEEN", x.count(5), 2);
        due("suspects(1)", x.suspects(1), -1);
    }

    private static final Runnable[] SENTENCES = {
        TextBoundariesTest::aHundredAndTwentyLettersAtMost, TextBoundariesTest::whatComesBehindAFullTextIsNotInIt,
        TextBoundariesTest::aLetterIs0To255, TextBoundariesTest::clearTellsHowManyItHad,
        TextBoundariesTest::blanksMayStandAheadBetweenAndBehind, TextBoundariesTest::noOtherLetterIsABlank,
        TextBoundariesTest::aBlankPartsTokens, TextBoundariesTest::noItemsAreATextToo,
        TextBoundariesTest::eachItemIsEndedBySemicolon, TextBoundariesTest::hooksAreOneToSix,
        TextBoundariesTest::hooksOnceAtMost, TextBoundariesTest::hooksAheadOfTheOthers,
        TextBoundariesTest::tiesAreOneToTwelveFigures, TextBoundariesTest::tiesAreLessThanH,
        TextBoundariesTest::tiesOnceAtMost, TextBoundariesTest::tiesAheadOfCards,
        TextBoundariesTest::aCardHasHFigures, TextBoundariesTest::aCardsFiguresAre0And1,
        TextBoundariesTest::clothHasEFigures, TextBoundariesTest::hooksWithoutEndsHaveNoHoleByCloth,
        TextBoundariesTest::clothOfUnlikeEndsCantBe, TextBoundariesTest::theNextCardComesBehind,
        TextBoundariesTest::eightCardsAtMost, TextBoundariesTest::ofLimitsTheLater,
        TextBoundariesTest::limitIsOneToTwelve, TextBoundariesTest::aNumberHasTwoFiguresAtMost,
        TextBoundariesTest::aNumberHasNo0Ahead, TextBoundariesTest::whatIsNotToldIsAsAtFirst,
        TextBoundariesTest::nothingIsLeftOfATextToldAheadOfAFault, TextBoundariesTest::aWordThatIsNoneOfThese,
        TextBoundariesTest::anyOtherLetter, TextBoundariesTest::capitalsAreNoLettersOfWords,
        TextBoundariesTest::anotherKindOfTokenCantStandThere, TextBoundariesTest::ofSeveralFaultsTheFirst,
        TextBoundariesTest::aTextThatEndsTooEarly, TextBoundariesTest::blanksAtTheEndAreLettersToo,
        TextBoundariesTest::aTextWithAFaultStays, TextBoundariesTest::whatWasSeenAndImagesStay,
    };

    public static void main(String[] args) {
        for (Runnable test : SENTENCES) {
            test.run();
        }
        System.out.println(wrong == 0 ? "all answers are as due" : wrong + " answers are not as due");
        if (wrong != 0) {
            System.exit(1);
        }
    }
}
