import java.util.ArrayList;
import java.util.List;

/**
 * What a call that is refused, a question, and a call that is UNDONE leave as it was: all that can be learnt of an object,
 * THE TEXT, what may be UNDONE and the IMAGES too, is beside what can be learnt of one on which the call was not made.
 */
public final class WhatStaysTest {
    private static final int BAD = -1, STATE = -2, FULL = -3, NO = -1000000;
    private static final int[] FAR = {Integer.MIN_VALUE, -1000000, -65536, -4096, -256, -64, -32, -12, -8, -3, -2, -1, 0, 1, 2,
        3, 4, 5, 6, 7, 8, 9, 12, 13, 31, 32, 33, 64, 100, 120, 255, 256, 257, 4096, 9999, 10000, 65536, 1000000, 1 << 30,
        Integer.MAX_VALUE};

    private interface Call {
        int on(LoomCards x);
    }

    private interface Setup {
        void bring(LoomCards x);
    }

    private static int wrong = 0;
    private static String sentence = "";

    private static void due(String what, Object got, Object want) {
        if (!got.equals(want)) {
            wrong++;
            System.out.println("'" + sentence + "': " + what + " is " + got + ", due is " + want);
        }
    }

    private static void type(LoomCards x, String text) {
        for (char letter : text.toCharArray()) {
            x.type(letter);
        }
    }

    private static void tell(LoomCards x, String text) {
        type(x, text);
        if (x.tells() < 0) {
            due("the test's own text " + text, "told", "not told");
        }
    }

    // ---- looms to begin with

    private static void fresh(LoomCards x) {
        due("a new object", x.count(7), 0);
    }

    /** Six may be UNDONE, each of another kind and unlike the next; one more is lost already. */
    private static void usual(LoomCards x) {
        tell(x, "hooks 3;ties 0120;card 100;card 011;card 110;limit 4;");
        x.keep(0);
        x.adds(5);
        x.punches(0, 1);
        x.ties(3, 2);
        x.changes(0, 2);
        x.drops(1);
        x.limits(2);
        type(x, "hooks 4;ties 0123; card 1010;limit 3;");
        x.sees(4, 0, x.cloth(4, 0));
        x.sees(2, 3, x.cloth(2, 3));
    }

    /** One may be UNDONE, one IMAGE was kept; the smallest loom. */
    private static void small(LoomCards x) {
        tell(x, "hooks 1;ties 0;card 1;limit 1;");
        x.keep(1);
        type(x, "card 1");
        x.sees(50, 0, 1);
    }

    /** All is full: HOOKS, ENDS, CARDS, LIMIT, THE TEXT, SEEN, what may be UNDONE, IMAGES. */
    private static void full(LoomCards x) {
        tell(x, "hooks 6;ties 012345543210;card 110100;card 001011;card 100110;");
        for (int card = 3; card < 7; card++) {
            x.adds(9 * card);
            x.keep(card % 2);
        }
        x.ties(11, 3);
        x.adds(63);
        for (int end = 0; end < 8; end++) {
            x.sees(99 - end, end, x.cloth(99 - end, end));
        }
        type(x, " ".repeat(120 - 8) + "limit 2;");
    }

    private static final String[] NAMES = {"a new loom", "a usual loom", "the smallest loom", "a full loom"};
    private static final Setup[] LOOMS = {WhatStaysTest::fresh, WhatStaysTest::usual, WhatStaysTest::small,
        WhatStaysTest::full};
    private static final int NEW = 0, USUAL = 1, SMALL = 2, ALL_FULL = 3;

    /** H, E, n, LIMIT, SEEN, letters, what may be UNDONE: the tests below lean on these. */
    private static void theLoomsAreAsMeant() {
        sentence = "count";
        int[] asked = {0, 1, 2, 3, 5, 6, 7};
        int[][] want = {{2, 2, 1, 12, 0, 0, 0}, {3, 4, 3, 2, 2, 37, 6}, {1, 1, 1, 1, 1, 6, 1}, {6, 12, 8, 12, 8, 120, 6}};
        for (int loom = 0; loom < LOOMS.length; loom++) {
            LoomCards x = new LoomCards();
            LOOMS[loom].bring(x);
            for (int i = 0; i < asked.length; i++) {
                due("count(" + asked[i] + ") of " + NAMES[loom], x.count(asked[i]), want[loom][i]);
            }
            due(NAMES[loom] + " has a SUSPECT", x.suspects(0) > 0, true);
        }
    }

    // ---- all that can be learnt

    private static void learnAll(LoomCards x, List<Integer> answers) {
        learnLoom(x, answers);
        for (int card = 0; card < x.count(2); card++) {
            answers.add(x.card(card, 1));
            answers.add(x.card(card, 2));
        }
        for (int end = 0; end < x.count(1); end++) {
            answers.add(x.end(end, 1));
            answers.add(x.end(end, 2));
        }
        for (int what = 0; what < 5; what++) {
            answers.add(x.told(what));
        }
        for (int k = -1; k < 2; k++) {
            answers.add(x.mends(k));
        }
        answers.add(x.suspects(0));
        answers.add(x.suspects(1));
        answers.add(x.look());
    }

    private static void learnLoom(LoomCards x, List<Integer> answers) {
        for (int what = 0; what < 8; what++) {
            answers.add(x.count(what));
        }
        for (int card = 0; card < 8; card++) {
            answers.add(x.card(card, 0));
        }
        for (int end = 0; end < 12; end++) {
            answers.add(x.end(end, 0));
        }
    }

    private static void learnWhatMayBeUndone(LoomCards x, List<Integer> answers) {
        for (int i = 0; i < 7; i++) {
            answers.add(x.undo());
            learnLoom(x, answers);
        }
    }

    private static void learnText(LoomCards x, List<Integer> answers) {
        answers.add(x.tells());
        learnLoom(x, answers);
        answers.add(x.suspects(0));
        answers.add(x.suspects(1));
        answers.add(x.forget());
        answers.add(x.clear());
    }

    private static void learnImage(LoomCards x, int image, List<Integer> answers) {
        answers.add(x.back(image));
        learnLoom(x, answers);
    }

    /** Objects can't be copied: for what is lost by learning each time another one is brought to where it is asked. */
    private static List<Integer> learn(Setup loom) {
        List<Integer> answers = new ArrayList<>();
        for (int part = 0; part < 5; part++) {
            LoomCards x = new LoomCards();
            loom.bring(x);
            switch (part) {
                case 0: learnAll(x, answers); break;
                case 1: learnWhatMayBeUndone(x, answers); break;
                case 2: learnText(x, answers); break;
                default: learnImage(x, part - 3, answers); break;
            }
        }
        return answers;
    }

    private static final List<List<Integer>> AS_IT_WAS = new ArrayList<>();

    private static void changesNothing(int loom, String name, Call call) {
        List<Integer> then = learn(x -> {
            LOOMS[loom].bring(x);
            call.on(x);
        });
        due("what can be learnt of " + NAMES[loom] + " behind " + name, then, AS_IT_WAS.get(loom));
    }

    private static void refused(int loom, String name, int want, Call call) {
        LoomCards x = new LoomCards();
        LOOMS[loom].bring(x);
        due(name + " of " + NAMES[loom], call.on(x), want);
        due(name + " of " + NAMES[loom] + " again", call.on(x), want);
        changesNothing(loom, name, call);
    }

    private interface Numbered {
        int on(LoomCards x, int number);
    }

    /** For each loom, and each number of FAR that is not from least to most. */
    private static void badOutside(String name, int least, Call most, int want, Numbered call) {
        for (int loom = 0; loom < LOOMS.length; loom++) {
            LoomCards x = new LoomCards();
            LOOMS[loom].bring(x);
            int last = most.on(x);
            for (int number : FAR) {
                if (number < least || number > last) {
                    refused(loom, name.replace("#", "" + number), want, y -> call.on(y, number));
                }
            }
            refused(loom, name.replace("#", "" + (last + 1)), want, y -> call.on(y, last + 1));
        }
    }

    private static int lastCard(LoomCards x) {
        return x.count(2) - 1;
    }

    private static int lastHook(LoomCards x) {
        return x.count(0) - 1;
    }

    private static int lastEnd(LoomCards x) {
        return x.count(1) - 1;
    }

    private static Call always(int number) {
        return x -> number;
    }

    // ---- BAD

    private static void badToTellAndDo() {
        sentence = "Refused, and nothing changes: BAD, of what is told and done";
        badOutside("type(#)", 0, always(255), BAD, LoomCards::type);
        badOutside("punches(#, 0)", 0, WhatStaysTest::lastCard, BAD, (x, i) -> x.punches(i, 0));
        badOutside("punches(0, #)", 0, WhatStaysTest::lastHook, BAD, (x, i) -> x.punches(0, i));
        badOutside("ties(#, 0)", 0, WhatStaysTest::lastEnd, BAD, (x, i) -> x.ties(i, 0));
        badOutside("ties(0, #)", 0, WhatStaysTest::lastHook, BAD, (x, i) -> x.ties(0, i));
        badOutside("adds(#)", 0, x -> (1 << x.count(0)) - 1, BAD, LoomCards::adds);
        badOutside("drops(#)", 0, WhatStaysTest::lastCard, BAD, LoomCards::drops);
        badOutside("changes(#, 0)", 0, WhatStaysTest::lastCard, BAD, (x, i) -> x.changes(i, 0));
        badOutside("changes(0, #)", 0, WhatStaysTest::lastCard, BAD, (x, i) -> x.changes(0, i));
        badOutside("changes(#, #)", 0, WhatStaysTest::lastCard, BAD, (x, i) -> x.changes(i, i));
        badOutside("limits(#)", 1, always(12), BAD, LoomCards::limits);
    }

    private static void badToAsk() {
        sentence = "Refused, and nothing changes: BAD, of what is asked";
        badOutside("card(#, 0)", 0, WhatStaysTest::lastCard, BAD, (x, i) -> x.card(i, 0));
        badOutside("card(#, 1)", 0, WhatStaysTest::lastCard, BAD, (x, i) -> x.card(i, 1));
        badOutside("card(#, 2)", 0, WhatStaysTest::lastCard, BAD, (x, i) -> x.card(i, 2));
        badOutside("card(0, #)", 0, always(2), BAD, (x, i) -> x.card(0, i));
        badOutside("end(#, 0)", 0, WhatStaysTest::lastEnd, BAD, (x, i) -> x.end(i, 0));
        badOutside("end(#, 1)", 0, WhatStaysTest::lastEnd, BAD, (x, i) -> x.end(i, 1));
        badOutside("end(#, 2)", 0, WhatStaysTest::lastEnd, BAD, (x, i) -> x.end(i, 2));
        badOutside("end(0, #)", 0, always(2), BAD, (x, i) -> x.end(0, i));
        badOutside("cloth(#, 0)", 0, always(9999), BAD, (x, i) -> x.cloth(i, 0));
        badOutside("cloth(0, #)", 0, WhatStaysTest::lastEnd, BAD, (x, i) -> x.cloth(0, i));
        badOutside("told(#)", 0, always(4), BAD, LoomCards::told);
        badOutside("mends(#)", -1, always(1), BAD, LoomCards::mends);
        badOutside("count(#)", 0, always(7), BAD, LoomCards::count);
    }

    private static void badToSeeAndKeep() {
        sentence = "Refused, and nothing changes: BAD, of a wrong hole and of images";
        badOutside("sees(#, 0, 0)", 0, always(99), BAD, (x, i) -> x.sees(i, 0, 0));
        badOutside("sees(#, 11, 1)", 0, always(99), BAD, (x, i) -> x.sees(i, 11, 1));
        badOutside("sees(0, #, 0)", 0, always(11), BAD, (x, i) -> x.sees(0, i, 0));
        badOutside("sees(99, #, 1)", 0, always(11), BAD, (x, i) -> x.sees(99, i, 1));
        badOutside("sees(0, 0, #)", 0, always(1), BAD, (x, i) -> x.sees(0, 0, i));
        badOutside("keep(#)", 0, always(1), BAD, LoomCards::keep);
        badOutside("back(#)", 0, always(1), BAD, LoomCards::back);
    }

    private static void noWhereMinusOneIsTold() {
        sentence = "What is BAD (NO) where -1 is told";
        badOutside("suspects(#)", 0, always(1), NO, LoomCards::suspects);
    }

    // ---- STATE

    private static void tiedToThatAlready() {
        sentence = "ties: STATE: it is that";
        refused(NEW, "ties(0, 0)", STATE, x -> x.ties(0, 0));
        refused(NEW, "ties(1, 1)", STATE, x -> x.ties(1, 1));
        refused(USUAL, "ties(3, 2)", STATE, x -> x.ties(3, 2));
        refused(SMALL, "ties(0, 0)", STATE, x -> x.ties(0, 0));
        refused(ALL_FULL, "ties(11, 3)", STATE, x -> x.ties(11, 3));
        refused(ALL_FULL, "ties(6, 5)", STATE, x -> x.ties(6, 5));
    }

    private static void theOnlyCard() {
        sentence = "drops: STATE: it is the only one";
        refused(NEW, "drops(0)", STATE, x -> x.drops(0));
        refused(SMALL, "drops(0)", STATE, x -> x.drops(0));
    }

    private static void oneAndTheSameCard() {
        sentence = "changes: STATE: it is one and the same CARD";
        refused(NEW, "changes(0, 0)", STATE, x -> x.changes(0, 0));
        refused(USUAL, "changes(0, 0)", STATE, x -> x.changes(0, 0));
        refused(USUAL, "changes(2, 2)", STATE, x -> x.changes(2, 2));
        refused(SMALL, "changes(0, 0)", STATE, x -> x.changes(0, 0));
        refused(ALL_FULL, "changes(7, 7)", STATE, x -> x.changes(7, 7));
    }

    private static void thatLimitAlready() {
        sentence = "limits: STATE: it is that";
        refused(NEW, "limits(12)", STATE, x -> x.limits(12));
        refused(USUAL, "limits(2)", STATE, x -> x.limits(2));
        refused(SMALL, "limits(1)", STATE, x -> x.limits(1));
        refused(ALL_FULL, "limits(12)", STATE, x -> x.limits(12));
    }

    private static void nothingToBeUndone() {
        sentence = "undo: STATE: none";
        refused(NEW, "undo()", STATE, LoomCards::undo);
    }

    private static void noImageWasKept() {
        sentence = "back: STATE: none was kept";
        refused(NEW, "back(0)", STATE, x -> x.back(0));
        refused(NEW, "back(1)", STATE, x -> x.back(1));
        refused(USUAL, "back(1)", STATE, x -> x.back(1));
        refused(SMALL, "back(0)", STATE, x -> x.back(0));
    }

    // ---- FULL

    private static void aNinthCard() {
        sentence = "adds: FULL: 8";
        refused(ALL_FULL, "adds(0)", FULL, x -> x.adds(0));
        refused(ALL_FULL, "adds(63)", FULL, x -> x.adds(63));
        refused(ALL_FULL, "adds(64)", BAD, x -> x.adds(64));
        refused(ALL_FULL, "adds(-1)", BAD, x -> x.adds(-1));
    }

    private static void aLetterMore() {
        sentence = "type: FULL: 120";
        refused(ALL_FULL, "type(0)", FULL, x -> x.type(0));
        refused(ALL_FULL, "type(;)", FULL, x -> x.type(';'));
        refused(ALL_FULL, "type(255)", FULL, x -> x.type(255));
        refused(ALL_FULL, "type(256)", BAD, x -> x.type(256));
        refused(ALL_FULL, "type(-1)", BAD, x -> x.type(-1));
    }

    private static void aNinthThingSeen() {
        sentence = "sees: FULL: 8";
        refused(ALL_FULL, "sees(0, 0, 0)", FULL, x -> x.sees(0, 0, 0));
        refused(ALL_FULL, "sees(99, 11, 1)", FULL, x -> x.sees(99, 11, 1));
        refused(ALL_FULL, "sees(99, 0, 1)", FULL, x -> x.sees(99, 0, x.cloth(99, 0)));
        refused(ALL_FULL, "sees(100, 0, 0)", BAD, x -> x.sees(100, 0, 0));
        refused(ALL_FULL, "sees(0, 12, 0)", BAD, x -> x.sees(0, 12, 0));
        refused(ALL_FULL, "sees(0, 0, 2)", BAD, x -> x.sees(0, 0, 2));
    }

    // ---- FAULT

    private static void aTextWithAFault() {
        sentence = "tells: -10 less FAULT: nothing changes, THE TEXT stays";
        refused(SMALL, "tells() of 'card 1'", -10 - 5, LoomCards::tells);
        String[] texts = {"hooks 5;ties 01234;card 11111;limit 1;hooks 5;", "hooks 6;ties 012345;cloth 11111;", "limit 1;#",
            "hooks 1;card 1;card 0;card 1;card 0"};
        int[] faults = {38, 26, 8, 35};
        for (int i = 0; i < texts.length; i++) {
            String text = texts[i];
            int want = -10 - faults[i];
            for (int loom = 0; loom < LOOMS.length; loom++) {
                Setup ahead = LOOMS[loom];
                Setup typed = x -> {
                    ahead.bring(x);
                    x.clear();
                    type(x, text);
                };
                Setup thenTold = x -> {
                    typed.bring(x);
                    due("tells() of " + text, x.tells(), want);
                };
                due("what can be learnt of " + NAMES[loom] + " behind " + text, learn(thenTold), learn(typed));
            }
        }
    }

    // ---- questions

    private static void nothingIsChangedByAsking() {
        sentence = "asked: (Nothing is changed.)";
        for (int loom = 0; loom < LOOMS.length; loom++) {
            for (int what = 0; what < 3; what++) {
                int asked = what;
                changesNothing(loom, "card(0, " + what + ")", x -> x.card(0, asked));
                changesNothing(loom, "end(0, " + what + ")", x -> x.end(0, asked));
                changesNothing(loom, "mends(" + (what - 1) + ")", x -> x.mends(asked - 1));
                changesNothing(loom, "cloth(9999, 0)", x -> x.cloth(9999, 0));
            }
            for (int what = 0; what < 8; what++) {
                int asked = what;
                changesNothing(loom, "told(" + what + ")", x -> x.told(asked));
                changesNothing(loom, "suspects(" + what + ")", x -> x.suspects(asked));
                changesNothing(loom, "count(" + what + ")", x -> x.count(asked));
            }
            changesNothing(loom, "look()", LoomCards::look);
        }
    }

    // ---- undone

    private static void allIsAsAheadOfIt(int loom, String name, Call call) {
        LoomCards x = new LoomCards();
        LOOMS[loom].bring(x);
        int known = x.count(7);
        due(name + " of " + NAMES[loom] + " is not refused", call.on(x) >= 0, true);
        due("what may be UNDONE behind " + name, x.count(7), known + 1);
        changesNothing(loom, name + ", undo()", y -> {
            call.on(y);
            return y.undo();
        });
    }

    private static void whatIsUndoneIsAsAheadOfIt() {
        sentence = "UNDONE: all that 1 tells but THE TEXT is as ahead of it";
        for (int loom : new int[] {NEW, SMALL}) {
            allIsAsAheadOfIt(loom, "punches(0, 0)", x -> x.punches(0, 0));
            allIsAsAheadOfIt(loom, "adds(1)", x -> x.adds(1));
            allIsAsAheadOfIt(loom, "limits(5)", x -> x.limits(5));
        }
        allIsAsAheadOfIt(NEW, "ties(0, 1)", x -> x.ties(0, 1));
        allIsAsAheadOfIt(NEW, "ties(1, 0)", x -> x.ties(1, 0));
        allIsAsAheadOfIt(NEW, "tells()", LoomCards::tells);
        dropsAndChangesUndone();
        tellsUndone();
    }

    private static void dropsAndChangesUndone() {
        for (int card = 0; card < 3; card++) {
            int one = card;
            Setup three = x -> tell(x, "hooks 3;ties 0122;card 101;card 011;card 110;");
            Setup dropped = x -> {
                three.bring(x);
                due("drops()", x.drops(one), 2);
                due("undo()", x.undo(), 1);
            };
            Setup changed = x -> {
                three.bring(x);
                x.changes(one, (one + 1) % 3);
                due("undo()", x.undo(), 1);
            };
            due("what can be learnt behind drops(" + card + "), undo()", learn(dropped), learn(three));
            due("what can be learnt behind changes(" + card + ", ..), undo()", learn(changed), learn(three));
        }
    }

    /** THE TEXT does not come again, and what was typed since stays. */
    private static void tellsUndone() {
        for (int loom : new int[] {NEW, SMALL}) {
            Setup ahead = LOOMS[loom];
            Setup typed = x -> {
                ahead.bring(x);
                x.clear();
                type(x, "lim");
            };
            Setup undone = x -> {
                ahead.bring(x);
                x.clear();
                tell(x, "hooks 6;ties 000111222333;card 111111;card 000000;card 101010;limit 7;");
                type(x, "lim");
                x.undo();
            };
            due("what can be learnt of " + NAMES[loom] + " behind tells(), undo()", learn(undone), learn(typed));
        }
    }

    // ---- what a call does not touch

    private static void clearAndForgetTouchNothingElse() {
        sentence = "THE TEXT is empty; Nothing is SEEN";
        Setup loom = x -> {
            tell(x, "hooks 3;ties 0120;card 101;card 010;limit 2;");
            x.keep(0);
            x.punches(0, 0);
        };
        Setup cleared = x -> {
            loom.bring(x);
            type(x, "limit 3;");
            x.clear();
        };
        Setup forgotten = x -> {
            loom.bring(x);
            x.sees(0, 0, 1);
            x.sees(1, 2, 0);
            x.forget();
        };
        due("what can be learnt behind type(), clear()", learn(cleared), learn(loom));
        due("what can be learnt behind sees(), forget()", learn(forgotten), learn(loom));
    }

    private static void keepTouchesOneImage() {
        sentence = "IMAGES keep all that 1 tells but THE TEXT; nothing else";
        for (int loom = 0; loom < LOOMS.length; loom++) {
            for (int image = 0; image < 2; image++) {
                int one = image;
                Setup ahead = LOOMS[loom];
                Setup kept = x -> {
                    ahead.bring(x);
                    due("keep(" + one + ")", x.keep(one), x.count(2));
                };
                List<Integer> was = AS_IT_WAS.get(loom);
                List<Integer> then = learn(kept);
                // What can be learnt of an IMAGE stands last: what back() answers, and 28 answers more.
                int images = was.size() - 2 * 29;
                int other = image == 0 ? 29 : 0;
                due("all but IMAGES", then.subList(0, images), was.subList(0, images));
                due("the other IMAGE", then.subList(images + other, images + other + 29),
                    was.subList(images + other, images + other + 29));
            }
        }
    }

    public static void main(String[] args) {
        theLoomsAreAsMeant();
        for (Setup loom : LOOMS) {
            AS_IT_WAS.add(learn(loom));
        }
        badToTellAndDo();
        badToAsk();
        badToSeeAndKeep();
        noWhereMinusOneIsTold();
        tiedToThatAlready();
        theOnlyCard();
        oneAndTheSameCard();
        thatLimitAlready();
        nothingToBeUndone();
        noImageWasKept();
        aNinthCard();
        aLetterMore();
        aNinthThingSeen();
        aTextWithAFault();
        nothingIsChangedByAsking();
        whatIsUndoneIsAsAheadOfIt();
        clearAndForgetTouchNothingElse();
        keepTouchesOneImage();
        System.out.println(wrong == 0 ? "all answers are as due" : wrong + " answers are not as due");
        if (wrong != 0) {
            System.exit(1);
        }
    }
}
