import java.util.ArrayDeque;
import java.util.ArrayList;
import java.util.Deque;
import java.util.HashSet;
import java.util.List;
import java.util.Random;
import java.util.Set;
import java.util.TreeMap;
import java.util.regex.Matcher;
import java.util.regex.Pattern;

/** Long runs of calls (from fixed seeds), each answer beside that of a model that does the document's words literally. */
public final class ModelRunsTest {
    private static final int RUNS = 3000;
    private static final int CALLS = 512;
    private static final int MOST_TOLD = 20;

    /** All that section 1 tells, but for THE TEXT. */
    private static final class State {
        int hooks = 2;
        int limit = 12;
        List<Integer> ties = new ArrayList<>(List.of(0, 1));
        List<boolean[]> cards = new ArrayList<>(List.of(new boolean[2]));

        State copy() {
            State copy = new State();
            copy.hooks = hooks;
            copy.limit = limit;
            copy.ties = new ArrayList<>(ties);
            copy.cards = new ArrayList<>();
            for (boolean[] card : cards) {
                copy.cards.add(card.clone());
            }
            return copy;
        }

        int n() {
            return cards.size();
        }

        int ends() {
            return ties.size();
        }

        boolean up(int row, int end) {
            return cards.get(row % n())[ties.get(end)];
        }

        State punched(int place) {
            State copy = copy();
            if (place >= 0) {
                copy.cards.get(place / hooks)[place % hooks] ^= true;
            }
            return copy;
        }

        int across(int row) {
            int most = 0;
            for (int first = 0; first < ends(); first++) {
                for (int last = first; last < ends() && !up(row, last); last++) {
                    most = Math.max(most, last - first + 1);
                }
            }
            return most;
        }

        int along(int end) {
            int most = 0;
            for (int first = 0; first < n(); first++) {
                int row = first;
                while (row < 100 && up(row, end) == up(first, end)) {
                    row++;
                }
                most = Math.max(most, row - first);
            }
            return most > 50 ? 99 : most;
        }

        int longCards() {
            int bits = 0;
            for (int card = 0; card < n(); card++) {
                if (across(card) > limit) {
                    bits += 1 << card;
                }
            }
            return bits;
        }

        int longEnds() {
            int bits = 0;
            for (int end = 0; end < ends(); end++) {
                if (along(end) > limit) {
                    bits += 1 << end;
                }
            }
            return bits;
        }

        int repeat() {
            for (int p = 1;; p++) {
                boolean same = true;
                for (int row = 0; row < 30; row++) {
                    for (int end = 0; end < ends(); end++) {
                        same &= up(row, end) == up(row + p, end);
                    }
                }
                if (same) {
                    return p;
                }
            }
        }

        int fewestHooks() {
            Set<String> kinds = new HashSet<>();
            for (int end = 0; end < ends(); end++) {
                StringBuilder kind = new StringBuilder();
                for (int row = 0; row < n(); row++) {
                    kind.append(up(row, end));
                }
                kinds.add(kind.toString());
            }
            return kinds.size();
        }

        /** Fewest, lower, other. */
        int[] mended() {
            if (longCards() + longEnds() == 0) {
                return new int[] {0, -9, -9};
            }
            for (int one = 0; one < hooks * n(); one++) {
                State by = punched(one);
                if (by.longCards() + by.longEnds() == 0) {
                    return new int[] {1, one, -9};
                }
            }
            for (int one = 0; one < hooks * n(); one++) {
                for (int two = one + 1; two < hooks * n(); two++) {
                    State by = punched(one).punched(two);
                    if (by.longCards() + by.longEnds() == 0) {
                        return new int[] {2, one, two};
                    }
                }
            }
            return new int[] {-9, -9, -9};
        }
    }

    private static final class Fault extends Exception {
        private static final long serialVersionUID = 1L;
        final int place;

        Fault(int place) {
            super("fault", null, false, false);
            this.place = place;
        }
    }

    /** THE TEXT, by TOKENS and their places. */
    private static final class Reader {
        private static final Pattern TOKEN = Pattern.compile("[a-z]+|[0-9]+|[^ ]", Pattern.DOTALL);
        final List<String> tokens = new ArrayList<>();
        final List<Integer> places = new ArrayList<>();
        final State state = new State();
        int at = 0;
        int items = 0;

        Reader(String text) throws Fault {
            Matcher matcher = TOKEN.matcher(text);
            while (matcher.find()) {
                tokens.add(matcher.group());
                places.add(matcher.start());
            }
            tokens.add("");
            places.add(text.length());
            Set<String> had = new HashSet<>();
            while (!tokens.get(at).isEmpty()) {
                item(had);
                items++;
            }
        }

        private void need(boolean isSo) throws Fault {
            if (!isSo) {
                throw new Fault(places.get(at));
            }
        }

        private void item(Set<String> had) throws Fault {
            String word = tokens.get(at);
            boolean cards = had.contains("card") || had.contains("cloth");
            need(List.of("hooks", "ties", "card", "cloth", "limit").contains(word));
            need(!word.equals("hooks") || !cards && !had.contains("ties") && !had.contains("hooks"));
            need(!word.equals("ties") || !cards && !had.contains("ties"));
            need(!word.startsWith("c") || !cards || state.n() < 8);
            at++;
            figures(word, tokens.get(at), cards);
            at++;
            need(tokens.get(at).equals(";"));
            at++;
            had.add(word);
        }

        private void figures(String word, String figures, boolean cards) throws Fault {
            switch (word) {
                case "hooks":
                    need(figures.matches("[1-6]"));
                    state.hooks = Integer.parseInt(figures);
                    state.ties = new ArrayList<>(List.of(0, Math.min(1, state.hooks - 1)));
                    state.cards = new ArrayList<>(List.of(new boolean[state.hooks]));
                    break;
                case "limit":
                    need(figures.matches("[1-9]|1[0-2]"));
                    state.limit = Integer.parseInt(figures);
                    break;
                case "ties":
                    need(figures.matches("[0-" + (state.hooks - 1) + "]{1,12}"));
                    state.ties.clear();
                    figures.chars().forEach(figure -> state.ties.add(figure - '0'));
                    break;
                default:
                    need(figures.matches("[01]{" + (word.equals("card") ? state.hooks : state.ends()) + "}"));
                    boolean[] holes = word.equals("card") ? holes(figures) : holesOfCloth(figures);
                    if (!cards) {
                        state.cards.clear();
                    }
                    state.cards.add(holes);
                    break;
            }
        }

        private boolean[] holes(String figures) {
            boolean[] holes = new boolean[state.hooks];
            for (int hook = 0; hook < state.hooks; hook++) {
                holes[hook] = figures.charAt(hook) == '1';
            }
            return holes;
        }

        private boolean[] holesOfCloth(String figures) throws Fault {
            boolean[] holes = new boolean[state.hooks];
            for (int one = 0; one < state.ends(); one++) {
                for (int two = 0; two < one; two++) {
                    boolean isOneHook = state.ties.get(one).equals(state.ties.get(two));
                    need(!isOneHook || figures.charAt(one) == figures.charAt(two));
                }
                holes[state.ties.get(one)] = figures.charAt(one) == '1';
            }
            return holes;
        }
    }

    private static final class Model {
        State state = new State();
        String text = "";
        final Deque<State> undone = new ArrayDeque<>();
        final State[] images = new State[2];
        final List<int[]> seen = new ArrayList<>();

        private static boolean in(int x, int from, int below) {
            return x >= from && x < below;
        }

        private void remember() {
            undone.addLast(state.copy());
            if (undone.size() > 6) {
                undone.removeFirst();
            }
        }

        private static int bits(boolean[] holes) {
            int bits = 0;
            for (int i = 0; i < holes.length; i++) {
                bits += holes[i] ? 1 << i : 0;
            }
            return bits;
        }

        private int tells() {
            try {
                Reader reader = new Reader(text);
                remember();
                state = reader.state;
                text = "";
                return reader.items;
            } catch (Fault fault) {
                return -10 - fault.place;
            }
        }

        private int clear() {
            int was = text.length();
            text = "";
            return was;
        }

        private int type(int letter) {
            if (!in(letter, 0, 256)) {
                return -1;
            }
            if (text.length() == 120) {
                return -3;
            }
            text += (char) letter;
            return text.length();
        }

        private int punches(int card, int hook) {
            if (!in(card, 0, state.n()) || !in(hook, 0, state.hooks)) {
                return -1;
            }
            remember();
            state = state.punched(state.hooks * card + hook);
            return state.cards.get(card)[hook] ? 1 : 0;
        }

        private int ties(int end, int hook) {
            if (!in(end, 0, state.ends()) || !in(hook, 0, state.hooks)) {
                return -1;
            }
            if (state.ties.get(end) == hook) {
                return -2;
            }
            remember();
            return state.ties.set(end, hook);
        }

        private int adds(int holes) {
            if (!in(holes, 0, 1 << state.hooks)) {
                return -1;
            }
            if (state.n() == 8) {
                return -3;
            }
            remember();
            boolean[] card = new boolean[state.hooks];
            for (int hook = 0; hook < state.hooks; hook++) {
                card[hook] = (holes & 1 << hook) != 0;
            }
            state.cards.add(card);
            return state.n();
        }

        private int drops(int card) {
            if (!in(card, 0, state.n())) {
                return -1;
            }
            if (state.n() == 1) {
                return -2;
            }
            remember();
            state.cards.remove(card);
            return state.n();
        }

        private int changes(int card, int other) {
            if (!in(card, 0, state.n()) || !in(other, 0, state.n())) {
                return -1;
            }
            if (card == other) {
                return -2;
            }
            remember();
            int unlike = 0;
            for (int end = 0; end < state.ends(); end++) {
                unlike += state.up(card, end) != state.up(other, end) ? 1 : 0;
            }
            boolean[] one = state.cards.get(card);
            state.cards.set(card, state.cards.get(other));
            state.cards.set(other, one);
            return unlike;
        }

        private int limits(int n) {
            if (!in(n, 1, 13)) {
                return -1;
            }
            if (n == state.limit) {
                return -2;
            }
            remember();
            int was = state.limit;
            state.limit = n;
            return was;
        }

        private int undo() {
            if (undone.isEmpty()) {
                return -2;
            }
            state = undone.removeLast();
            return undone.size();
        }

        private int card(int card, int what) {
            if (!in(card, 0, state.n()) || !in(what, 0, 3)) {
                return -1;
            }
            boolean[] up = new boolean[state.ends()];
            for (int end = 0; end < up.length; end++) {
                up[end] = state.up(card, end);
            }
            return new int[] {bits(state.cards.get(card)), bits(up), state.across(card)}[what];
        }

        private int end(int end, int what) {
            if (!in(end, 0, state.ends()) || !in(what, 0, 3)) {
                return -1;
            }
            boolean[] up = new boolean[state.n()];
            for (int row = 0; row < up.length; row++) {
                up[row] = state.up(row, end);
            }
            return new int[] {state.ties.get(end), state.along(end), bits(up)}[what];
        }

        private int cloth(int row, int end) {
            if (!in(row, 0, 10000) || !in(end, 0, state.ends())) {
                return -1;
            }
            return state.up(row, end) ? 1 : 0;
        }

        private int told(int what) {
            switch (what) {
                case 0: return state.repeat();
                case 1: return state.fewestHooks();
                case 2: return state.longCards();
                case 3: return state.longEnds();
                case 4:
                    boolean[] free = new boolean[state.hooks];
                    for (int hook = 0; hook < free.length; hook++) {
                        free[hook] = !state.ties.contains(hook);
                    }
                    return bits(free);
                default: return -1;
            }
        }

        private int mends(int k) {
            return in(k, -1, 2) ? state.mended()[k + 1] : -1;
        }

        private int sees(int row, int end, int isUp) {
            if (!in(row, 0, 100) || !in(end, 0, 12) || !in(isUp, 0, 2)) {
                return -1;
            }
            if (seen.size() == 8) {
                return -3;
            }
            seen.add(new int[] {row, end, isUp});
            return seen.size();
        }

        private int forget() {
            int was = seen.size();
            seen.clear();
            return was;
        }

        private boolean fits(State by) {
            for (int[] one : seen) {
                if (one[1] >= by.ends() || by.up(one[0], one[1]) != (one[2] == 1)) {
                    return false;
                }
            }
            return true;
        }

        private List<Integer> suspectPlaces() {
            List<Integer> places = new ArrayList<>();
            for (int place = -1; place < state.hooks * state.n(); place++) {
                if (fits(state.punched(place))) {
                    places.add(place);
                }
            }
            return places;
        }

        private int suspects(int what) {
            if (!in(what, 0, 2)) {
                return -1000000;
            }
            List<Integer> places = suspectPlaces();
            return what == 0 ? places.size() : places.isEmpty() ? -9 : places.get(0);
        }

        private int look() {
            List<Integer> places = suspectPlaces();
            if (places.size() <= 1) {
                return -9;
            }
            List<State> states = new ArrayList<>();
            places.forEach(place -> states.add(state.punched(place)));
            TreeMap<Integer, Integer> firstByGreater = new TreeMap<>();
            for (int row = 0; row < state.n(); row++) {
                for (int end = 0; end < state.ends(); end++) {
                    int up = 0;
                    for (State by : states) {
                        up += by.up(row, end) ? 1 : 0;
                    }
                    firstByGreater.putIfAbsent(Math.max(up, places.size() - up), 12 * row + end);
                }
            }
            return firstByGreater.firstEntry().getValue();
        }

        private int keep(int image) {
            if (!in(image, 0, 2)) {
                return -1;
            }
            images[image] = state.copy();
            return state.n();
        }

        private int back(int image) {
            if (!in(image, 0, 2)) {
                return -1;
            }
            if (images[image] == null) {
                return -2;
            }
            state = images[image].copy();
            undone.clear();
            return state.n();
        }

        private int count(int what) {
            int holes = 0;
            for (boolean[] card : state.cards) {
                holes += Integer.bitCount(bits(card));
            }
            int[] counts = {state.hooks, state.ends(), state.n(), state.limit, holes, seen.size(), text.length(),
                undone.size()};
            return in(what, 0, 8) ? counts[what] : -1;
        }
    }

    private final Random random;
    private final LoomCards program = new LoomCards();
    private final Model model = new Model();
    private final List<String> calls = new ArrayList<>();
    private final TreeMap<String, Integer> met;
    private boolean isWrong = false;

    private ModelRunsTest(long seed, TreeMap<String, Integer> met) {
        random = new Random(seed);
        this.met = met;
    }

    private int below(int bound) {
        return random.nextInt(bound);
    }

    /** Mostly 0 to most, now and then a little or far outside. */
    private int number(int most) {
        switch (below(60)) {
            case 0: return -1;
            case 1: return most + 1;
            case 2: return random.nextInt();
            default: return below(most + 1);
        }
    }

    private void due(String call, int got, int want) {
        calls.add(call + " = " + got);
        if (got != want) {
            isWrong = true;
            System.out.println(String.join("\n", calls) + ", due is " + want);
        }
    }

    private void meet(String kind) {
        met.merge(kind, 1, Integer::sum);
    }

    private String figures(int howMany, int bound) {
        StringBuilder figures = new StringBuilder();
        for (int i = 0; i < howMany; i++) {
            figures.append(below(bound));
        }
        return figures.toString();
    }

    private String clothFigures(String ties) {
        int up = below(64);
        StringBuilder figures = new StringBuilder();
        for (char hook : ties.toCharArray()) {
            figures.append(up >> hook - '0' & 1);
        }
        return figures.toString();
    }

    private String goodText() {
        StringBuilder text = new StringBuilder();
        int hooks = below(4) == 0 ? 2 : 1 + below(6);
        if (hooks != 2 || below(2) == 0) {
            text.append("hooks ").append(hooks).append(";");
        }
        String ties = hooks == 1 ? "00" : "01";
        if (below(4) != 0) {
            ties = figures(1 + below(12), hooks);
            text.append("ties ").append(ties).append(";");
        }
        int limitAt = below(6);
        int cards = below(9);
        for (int card = 0; card <= cards; card++) {
            if (card == limitAt) {
                text.append("limit ").append(1 + below(below(2) == 0 ? 4 : 12)).append(";");
            }
            if (card < cards && below(2) == 0) {
                text.append("card").append(below(2) == 0 ? " " : "").append(figures(hooks, 2)).append(";");
            } else if (card < cards) {
                text.append("cloth ").append(clothFigures(ties)).append(";");
            }
        }
        return text.toString();
    }

    private String altered(String text) {
        StringBuilder altered = new StringBuilder(text);
        String signs = "0123456789;;;  abcdhkorstlim#A" + (char) 233;
        for (int i = 1 + below(3); i > 0; i--) {
            int place = below(altered.length() + 1);
            char sign = signs.charAt(below(signs.length()));
            if (below(3) == 0 || place == altered.length()) {
                altered.insert(place, sign);
            } else if (below(2) == 0) {
                altered.deleteCharAt(place);
            } else {
                altered.setCharAt(place, sign);
            }
        }
        return below(5) == 0 ? altered.substring(below(altered.length() + 1)) : altered.toString();
    }

    private void tell(int room) {
        String text = goodText();
        if (below(3) == 0) {
            text = altered(text);
        }
        text = text.substring(0, Math.min(text.length(), room - 2));
        for (char letter : text.toCharArray()) {
            due("type(" + (int) letter + ")", program.type(letter), model.type(letter));
        }
        int want = model.tells();
        due("tells()", program.tells(), want);
        meet(want < 0 ? "FAULT" : "told");
        if (want < 0 && below(4) != 0) {
            due("clear()", program.clear(), model.clear());
        }
    }

    private void seeAsItMayBe() {
        State by = model.state.punched(below(model.state.hooks * model.state.n() + 1) - 1);
        int row = below(100);
        int end = below(by.ends());
        int isUp = by.up(row, end) ? 1 : 0;
        due("sees(" + row + ", " + end + ", " + isUp + ")", program.sees(row, end, isUp), model.sees(row, end, isUp));
    }

    private void act() {
        int a = number(model.state.n() - 1);
        int b = number(model.state.hooks - 1);
        int e = number(model.state.ends() - 1);
        switch (below(9)) {
            case 0: due("ties(" + e + ", " + b + ")", program.ties(e, b), model.ties(e, b)); break;
            case 1:
                int holes = number((1 << model.state.hooks) - 1);
                due("adds(" + holes + ")", program.adds(holes), model.adds(holes));
                break;
            case 2: due("drops(" + a + ")", program.drops(a), model.drops(a)); break;
            case 3:
                int other = number(model.state.n() - 1);
                due("changes(" + a + ", " + other + ")", program.changes(a, other), model.changes(a, other));
                break;
            case 4:
                int limit = number(12);
                due("limits(" + limit + ")", program.limits(limit), model.limits(limit));
                break;
            case 5: due("undo()", program.undo(), model.undo()); break;
            default: due("punches(" + a + ", " + b + ")", program.punches(a, b), model.punches(a, b)); break;
        }
    }

    private void ask() {
        int a = number(model.state.n() - 1);
        int e = number(model.state.ends() - 1);
        int what = number(2);
        int more = number(7);
        int row = number(9999);
        switch (below(5)) {
            case 0: due("card(" + a + ", " + what + ")", program.card(a, what), model.card(a, what)); break;
            case 1: due("end(" + e + ", " + what + ")", program.end(e, what), model.end(e, what)); break;
            case 2: due("cloth(" + row + ", " + e + ")", program.cloth(row, e), model.cloth(row, e)); break;
            case 3: due("count(" + more + ")", program.count(more), model.count(more)); break;
            default: due("told(" + more + ")", program.told(more), model.told(more)); break;
        }
    }

    private void askOfAWrongHole() {
        int what = number(1);
        int want;
        switch (below(12)) {
            case 0: due("forget()", program.forget(), model.forget()); break;
            case 1:
                int row = number(99);
                int end = number(11);
                due("sees(" + row + ", " + end + ", " + what + ")", program.sees(row, end, what),
                    model.sees(row, end, what));
                break;
            case 2:
            case 3:
            case 4: seeAsItMayBe(); break;
            case 5:
            case 6:
                want = model.look();
                due("look()", program.look(), want);
                meet(want < 0 ? "look NONE" : "look");
                break;
            default:
                want = model.suspects(what);
                due("suspects(" + what + ")", program.suspects(what), want);
                meet(want < 0 ? "suspects " + want : "suspects");
                break;
        }
    }

    private void step() {
        int kind = below(100);
        if (kind < 40) {
            act();
        } else if (kind < 70) {
            ask();
        } else if (kind < 88) {
            askOfAWrongHole();
        } else if (kind < 96) {
            int k = number(2) - 1;
            int want = model.mends(k);
            due("mends(" + k + ")", program.mends(k), want);
            meet(k == 0 || k == 1 ? "mends(" + k + ")" + (want < 0 ? " NONE" : "") : "mends " + want);
        } else if (kind < 98) {
            int image = number(1);
            due("keep(" + image + ")", program.keep(image), model.keep(image));
        } else {
            int image = number(1);
            due("back(" + image + ")", program.back(image), model.back(image));
        }
    }

    private boolean runsWell() {
        int told = 0;
        while (calls.size() < CALLS && !isWrong) {
            int room = CALLS - calls.size();
            if (room > 10 && told < MOST_TOLD && (told == 0 || below(40) == 0)) {
                tell(room);
                told++;
            } else {
                step();
            }
        }
        return !isWrong;
    }

    private static boolean isMet(TreeMap<String, Integer> met, String kind) {
        if (met.getOrDefault(kind, 0) < 20) {
            System.out.println("the runs hardly meet " + kind + ": " + met);
            return false;
        }
        return true;
    }

    public static void main(String[] args) {
        int wrong = 0;
        TreeMap<String, Integer> met = new TreeMap<>();
        for (int run = 0; run < RUNS && wrong < 3; run++) {
            wrong += new ModelRunsTest(run, met).runsWell() ? 0 : 1;
        }
        for (String kind : new String[] {"FAULT", "told", "look", "look NONE", "suspects", "suspects -1", "suspects -9",
            "mends 0", "mends 1", "mends 2", "mends -9", "mends(0)", "mends(0) NONE", "mends(1)", "mends(1) NONE"}) {
            wrong += wrong > 0 || isMet(met, kind) ? 0 : 1;
        }
        System.out.println(wrong == 0 ? "all answers are as due " + met : wrong + " runs are not as due");
        if (wrong != 0) {
            System.exit(1);
        }
    }
}
