/**
 * Cards for a loom, the cloth that comes of them, and what is wrong with either.
 * The words in capitals are those of the document.
 */
public final class LoomCards {
    public static final int BAD = -1, STATE = -2, FULL = -3, NONE = -9;
    public static final int NO = -1000000;

    private static final int MOST_HOOKS = 6;
    private static final int MOST_ENDS = 12;
    private static final int MOST_CARDS = 8;
    private static final int MOST_LIMIT = 12;
    private static final int MOST_LETTERS = 120;
    private static final int MOST_UNDONE = 6;
    private static final int MOST_SEEN = 8;
    private static final int IMAGES = 2;
    private static final int HIGHEST_LETTER = 255;
    private static final int HIGHEST_ROW = 9999;
    private static final int HIGHEST_ROW_SEEN = 99;
    private static final int ALWAYS_THE_SAME = 99;
    private static final int NO_PLACE = -1;

    private final Loom loom = new Loom();
    private final Teller teller = new Teller();
    private final History history = new History();
    private final Mender mender = new Mender();
    private final Sightings sightings = new Sightings();
    private final Loom[] images = new Loom[IMAGES];
    private final boolean[] isKept = new boolean[IMAGES];

    public LoomCards() {
        for (int image = 0; image < images.length; image++) {
            images[image] = new Loom();
        }
    }

    // ---- what is told

    public int type(int letter) {
        if (letter < 0 || letter > HIGHEST_LETTER) {
            return BAD;
        }
        return teller.text.append(letter) ? teller.text.length : FULL;
    }

    public int clear() {
        return teller.text.empty();
    }

    public int tells() {
        int items = teller.read();
        if (items < 0) {
            return items;
        }
        history.remember(loom);
        loom.become(teller.draft);
        teller.text.empty();
        return items;
    }

    // ---- what is done

    public int punches(int card, int hook) {
        if (!loom.hasCard(card) || !loom.hasHook(hook)) {
            return BAD;
        }
        history.remember(loom);
        loom.punch(loom.placeOf(card, hook));
        return loom.holesOf(card) >> hook & 1;
    }

    public int ties(int end, int hook) {
        if (!loom.hasEnd(end) || !loom.hasHook(hook)) {
            return BAD;
        }
        int was = loom.hookOf(end);
        if (was == hook) {
            return STATE;
        }
        history.remember(loom);
        loom.tie(end, hook);
        return was;
    }

    public int adds(int holes) {
        if (!loom.hasHoles(holes)) {
            return BAD;
        }
        if (loom.cards >= MOST_CARDS) {
            return FULL;
        }
        history.remember(loom);
        loom.putBehind(loom.cards, holes);
        return loom.cards;
    }

    public int drops(int card) {
        if (!loom.hasCard(card)) {
            return BAD;
        }
        if (loom.cards <= 1) {
            return STATE;
        }
        history.remember(loom);
        loom.takeOut(card);
        return loom.cards;
    }

    public int changes(int card, int other) {
        if (!loom.hasCard(card) || !loom.hasCard(other)) {
            return BAD;
        }
        if (card == other) {
            return STATE;
        }
        history.remember(loom);
        loom.swap(card, other);
        return Integer.bitCount(loom.upEnds(card) ^ loom.upEnds(other));
    }

    public int limits(int n) {
        if (n < 1 || n > MOST_LIMIT) {
            return BAD;
        }
        int was = loom.limit;
        if (was == n) {
            return STATE;
        }
        history.remember(loom);
        loom.limit = n;
        return was;
    }

    public int undo() {
        return history.restore(loom) ? history.known : STATE;
    }

    // ---- asked

    public int card(int card, int what) {
        if (!loom.hasCard(card)) {
            return BAD;
        }
        switch (what) {
            case 0: return loom.holesOf(card);
            case 1: return loom.upEnds(card);
            case 2: return loom.across(card);
            default: return BAD;
        }
    }

    public int end(int end, int what) {
        if (!loom.hasEnd(end)) {
            return BAD;
        }
        switch (what) {
            case 0: return loom.hookOf(end);
            case 1: return loom.along(end);
            case 2: return loom.upRows(end);
            default: return BAD;
        }
    }

    public int cloth(int row, int end) {
        if (row < 0 || row > HIGHEST_ROW || !loom.hasEnd(end)) {
            return BAD;
        }
        return loom.isUp(loom.cardOfRow(row), end) ? 1 : 0;
    }

    public int told(int what) {
        switch (what) {
            case 0: return loom.repeat();
            case 1: return loom.unlikeEnds();
            case 2: return loom.longCards();
            case 3: return loom.longEnds();
            case 4: return loom.hooksWithoutEnds();
            default: return BAD;
        }
    }

    public int mends(int k) {
        if (k < -1 || k > 1) {
            return BAD;
        }
        mender.search(loom);
        switch (k) {
            case 0: return mender.lower;
            case 1: return mender.other;
            default: return mender.fewest;
        }
    }

    // ---- a wrong hole

    public int sees(int row, int end, int isUp) {
        if (row < 0 || row > HIGHEST_ROW_SEEN || end < 0 || end >= MOST_ENDS || isUp < 0 || isUp > 1) {
            return BAD;
        }
        return sightings.note(row, end, isUp == 1) ? sightings.seen : FULL;
    }

    public int forget() {
        return sightings.empty();
    }

    public int suspects(int what) {
        switch (what) {
            case 0: return sightings.howManySuspects(loom);
            case 1: return sightings.firstSuspect(loom);
            default: return NO;
        }
    }

    public int look() {
        return sightings.whereToLook(loom);
    }

    // ---- images

    public int keep(int image) {
        if (image < 0 || image >= IMAGES) {
            return BAD;
        }
        images[image].become(loom);
        isKept[image] = true;
        return loom.cards;
    }

    public int back(int image) {
        if (image < 0 || image >= IMAGES) {
            return BAD;
        }
        if (!isKept[image]) {
            return STATE;
        }
        loom.become(images[image]);
        history.empty();
        return loom.cards;
    }

    public int count(int what) {
        switch (what) {
            case 0: return loom.hooks;
            case 1: return loom.ends;
            case 2: return loom.cards;
            case 3: return loom.limit;
            case 4: return loom.allHoles();
            case 5: return sightings.seen;
            case 6: return teller.text.length;
            case 7: return history.known;
            default: return BAD;
        }
    }

    /** All that section 1 of the document tells, but for THE TEXT. */
    private static final class Loom {
        int hooks;
        int ends;
        int cards;
        int limit;
        private final int[] hookOfEnd = new int[MOST_ENDS];
        private final int[] holesOfCard = new int[MOST_CARDS];

        Loom() {
            startAnew();
        }

        void startAnew() {
            ends = 2;
            takeHooks(2);
            putBehind(0, 0);
            limit = MOST_LIMIT;
        }

        /** Ties the two ENDS of a loom whose ties are not told, too: they hang on how many HOOKS there are. */
        void takeHooks(int howMany) {
            hooks = howMany;
            hookOfEnd[0] = 0;
            hookOfEnd[1] = howMany > 1 ? 1 : 0;
        }

        void become(Loom model) {
            hooks = model.hooks;
            ends = model.ends;
            cards = model.cards;
            limit = model.limit;
            System.arraycopy(model.hookOfEnd, 0, hookOfEnd, 0, MOST_ENDS);
            System.arraycopy(model.holesOfCard, 0, holesOfCard, 0, MOST_CARDS);
        }

        boolean hasHook(int hook) {
            return hook >= 0 && hook < hooks;
        }

        boolean hasEnd(int end) {
            return end >= 0 && end < ends;
        }

        boolean hasCard(int card) {
            return card >= 0 && card < cards;
        }

        boolean hasHoles(int holes) {
            return holes >= 0 && holes < 1 << hooks;
        }

        int hookOf(int end) {
            return hasEnd(end) ? hookOfEnd[end] : 0;
        }

        int holesOf(int card) {
            return hasCard(card) ? holesOfCard[card] : 0;
        }

        int cardOfRow(int row) {
            return row >= 0 && cards > 0 ? row % cards : 0;
        }

        int places() {
            return hooks * cards;
        }

        int placeOf(int card, int hook) {
            return hooks * card + hook;
        }

        void punch(int place) {
            if (place >= 0 && place < places() && hooks > 0) {
                holesOfCard[place / hooks] ^= 1 << place % hooks;
            }
        }

        /** Whether these CARDS and ENDS (bits) are all among those that a place PUNCHED alters. */
        boolean altersAll(int place, int someCards, int someEnds) {
            if (hooks <= 0) {
                return false;
            }
            return (someCards & ~(1 << place / hooks)) == 0 && (someEnds & ~endsOf(place % hooks)) == 0;
        }

        private int endsOf(int hook) {
            int bits = 0;
            for (int end = 0; end < ends; end++) {
                bits |= hookOfEnd[end] == hook ? 1 << end : 0;
            }
            return bits;
        }

        void tie(int end, int hook) {
            if (hasEnd(end)) {
                hookOfEnd[end] = hook;
            }
        }

        /** Puts a CARD behind the first ones; those that stood there are gone. */
        void putBehind(int first, int holes) {
            if (first >= 0 && first < MOST_CARDS) {
                holesOfCard[first] = holes;
                cards = first + 1;
            }
        }

        void takeOut(int card) {
            if (hasCard(card) && cards > 1) {
                System.arraycopy(holesOfCard, card + 1, holesOfCard, card, cards - card - 1);
                cards--;
            }
        }

        void swap(int card, int other) {
            if (hasCard(card) && hasCard(other)) {
                int holes = holesOfCard[card];
                holesOfCard[card] = holesOfCard[other];
                holesOfCard[other] = holes;
            }
        }

        boolean isUp(int card, int end) {
            if (card < 0 || card >= cards || end < 0 || end >= ends) {
                return false;
            }
            return (holesOfCard[card] >> hookOfEnd[end] & 1) == 1;
        }

        int upEnds(int card) {
            int bits = 0;
            for (int end = 0; end < ends; end++) {
                bits |= isUp(card, end) ? 1 << end : 0;
            }
            return bits;
        }

        int upRows(int end) {
            int bits = 0;
            for (int row = 0; row < cards; row++) {
                bits |= isUp(row, end) ? 1 << row : 0;
            }
            return bits;
        }

        int across(int card) {
            int most = 0;
            int sideBySide = 0;
            for (int end = 0; end < ends; end++) {
                sideBySide = isUp(card, end) ? 0 : sideBySide + 1;
                most = Math.max(most, sideBySide);
            }
            return most;
        }

        int along(int end) {
            // Twice round the CARDS, as a float may go on from the last one to the first.
            int rows = 2 * cards;
            boolean wasUp = isUp(0, end);
            int most = 1;
            int same = 1;
            for (int row = 1; row < rows; row++) {
                boolean isUp = isUp(cardOfRow(row), end);
                same = isUp == wasUp ? same + 1 : 1;
                most = Math.max(most, same);
                wasUp = isUp;
            }
            return most == rows ? ALWAYS_THE_SAME : most;
        }

        int repeat() {
            for (int after = 1; after < cards; after++) {
                if (repeatsAfter(after)) {
                    return after;
                }
            }
            return cards;
        }

        private boolean repeatsAfter(int rows) {
            for (int row = 0; row < cards; row++) {
                if (upEnds(row) != upEnds(cardOfRow(row + rows))) {
                    return false;
                }
            }
            return true;
        }

        int unlikeEnds() {
            int unlike = 0;
            for (int end = 0; end < ends; end++) {
                unlike += isLikeAnEarlierOne(end) ? 0 : 1;
            }
            return unlike;
        }

        private boolean isLikeAnEarlierOne(int end) {
            int up = upRows(end);
            for (int earlier = 0; earlier < end; earlier++) {
                if (upRows(earlier) == up) {
                    return true;
                }
            }
            return false;
        }

        int longCards() {
            int bits = 0;
            for (int card = 0; card < cards; card++) {
                bits |= across(card) > limit ? 1 << card : 0;
            }
            return bits;
        }

        int longEnds() {
            int bits = 0;
            for (int end = 0; end < ends; end++) {
                bits |= along(end) > limit ? 1 << end : 0;
            }
            return bits;
        }

        boolean hasNothingTooLong() {
            for (int card = 0; card < cards; card++) {
                if (across(card) > limit) {
                    return false;
                }
            }
            for (int end = 0; end < ends; end++) {
                if (along(end) > limit) {
                    return false;
                }
            }
            return true;
        }

        int hooksWithoutEnds() {
            int bits = 0;
            for (int hook = 0; hook < hooks; hook++) {
                bits |= endsOf(hook) == 0 ? 1 << hook : 0;
            }
            return bits;
        }

        int allHoles() {
            int holes = 0;
            for (int card = 0; card < cards; card++) {
                holes += Integer.bitCount(holesOf(card));
            }
            return holes;
        }
    }

    /** THE TEXT. */
    private static final class Letters {
        private static final int BEHIND_THE_LAST = -1;

        int length;
        private final int[] letters = new int[MOST_LETTERS];

        boolean append(int letter) {
            if (length < 0 || length >= MOST_LETTERS) {
                return false;
            }
            letters[length] = letter;
            length++;
            return true;
        }

        int empty() {
            int was = length;
            length = 0;
            return was;
        }

        int at(int place) {
            return place >= 0 && place < length && place < MOST_LETTERS ? letters[place] : BEHIND_THE_LAST;
        }

        int figureAt(int place) {
            return place >= 0 && place < length && place < MOST_LETTERS ? letters[place] - '0' : 0;
        }

        boolean isFrom(int from, int to, String word) {
            if (to - from != word.length()) {
                return false;
            }
            for (int i = 0; i < word.length(); i++) {
                if (at(from + i) != word.charAt(i)) {
                    return false;
                }
            }
            return true;
        }
    }

    /** Reads THE TEXT into a draft, so that a FAULT leaves the loom as it is. */
    private static final class Teller {
        private static final int FAULT_AT_0 = -10;
        private static final int BLANK = ' ';
        /** Kinds of TOKENS; of words a kind each. */
        private static final int END_OF_TEXT = 0, SEMICOLON = 1, FIGURES = 2, STRANGE = 3;
        private static final int HOOKS = 4, TIES = 5, CARD = 6, CLOTH = 7, LIMIT = 8;

        final Letters text = new Letters();
        final Loom draft = new Loom();
        private int kind;
        private int from;
        private int to;
        private boolean hasHooks;
        private boolean hasTies;
        private int cardsTold;

        /** How many ITEMS there are; -10 less FAULT, if there is one. */
        int read() {
            startAnew();
            for (int items = 0; items < MOST_LETTERS; items++) {
                nextToken();
                if (kind == END_OF_TEXT) {
                    return items;
                }
                if (!readsItem()) {
                    return FAULT_AT_0 - from;
                }
            }
            return FAULT_AT_0 - from;
        }

        private void startAnew() {
            draft.startAnew();
            to = 0;
            hasHooks = false;
            hasTies = false;
            cardsTold = 0;
        }

        /** If not, the TOKEN at hand is the one that can't stand there. */
        private boolean readsItem() {
            int word = kind;
            if (!canStartItem(word)) {
                return false;
            }
            nextToken();
            if (kind != FIGURES || !takesFigures(word)) {
                return false;
            }
            nextToken();
            return kind == SEMICOLON;
        }

        private boolean canStartItem(int word) {
            switch (word) {
                case HOOKS: return !hasHooks && !hasTies && cardsTold == 0;
                case TIES: return !hasTies && cardsTold == 0;
                case CARD: return cardsTold < MOST_CARDS;
                case CLOTH: return cardsTold < MOST_CARDS;
                case LIMIT: return true;
                default: return false;
            }
        }

        private boolean takesFigures(int word) {
            switch (word) {
                case HOOKS: return takesHooks();
                case TIES: return takesTies();
                case CARD: return takesCard();
                case CLOTH: return takesCloth();
                case LIMIT: return takesLimit();
                default: return false;
            }
        }

        private boolean takesHooks() {
            int number = number();
            if (number < 1 || number > MOST_HOOKS) {
                return false;
            }
            draft.takeHooks(number);
            hasHooks = true;
            return true;
        }

        private boolean takesTies() {
            int figures = to - from;
            if (figures > MOST_ENDS || !areFiguresBelow(draft.hooks)) {
                return false;
            }
            draft.ends = figures;
            for (int end = 0; end < figures; end++) {
                draft.tie(end, text.figureAt(from + end));
            }
            hasTies = true;
            return true;
        }

        private boolean takesCard() {
            if (to - from != draft.hooks || !areFiguresBelow(2)) {
                return false;
            }
            int holes = 0;
            for (int hook = 0; hook < draft.hooks; hook++) {
                holes |= text.figureAt(from + hook) << hook;
            }
            takeHoles(holes);
            return true;
        }

        private boolean takesCloth() {
            if (to - from != draft.ends || !areFiguresBelow(2)) {
                return false;
            }
            int up = 0;
            int down = 0;
            for (int end = 0; end < draft.ends; end++) {
                int hook = 1 << draft.hookOf(end);
                boolean isUp = text.figureAt(from + end) == 1;
                up |= isUp ? hook : 0;
                down |= isUp ? 0 : hook;
            }
            if ((up & down) != 0) {
                return false;
            }
            takeHoles(up);
            return true;
        }

        private void takeHoles(int holes) {
            draft.putBehind(cardsTold, holes);
            cardsTold++;
        }

        private boolean takesLimit() {
            int number = number();
            if (number < 1 || number > MOST_LIMIT) {
                return false;
            }
            draft.limit = number;
            return true;
        }

        /** 0, which no N can be, for figures that are not written as an N is. */
        private int number() {
            int figures = to - from;
            int first = text.figureAt(from);
            if (figures > 2 || first == 0) {
                return 0;
            }
            return figures == 1 ? first : 10 * first + text.figureAt(from + 1);
        }

        private boolean areFiguresBelow(int bound) {
            for (int place = from; place < to; place++) {
                if (text.figureAt(place) >= bound) {
                    return false;
                }
            }
            return true;
        }

        private void nextToken() {
            from = placeBehindBlanks(to);
            int first = text.at(from);
            if (isFigure(first)) {
                to = placeBehindFigures(from);
                kind = FIGURES;
            } else if (isWordLetter(first)) {
                to = placeBehindWord(from);
                kind = kindOfWord();
            } else if (from >= text.length) {
                to = from;
                kind = END_OF_TEXT;
            } else {
                to = from + 1;
                kind = first == ';' ? SEMICOLON : STRANGE;
            }
        }

        private int kindOfWord() {
            return text.isFrom(from, to, "hooks") ? HOOKS
                : text.isFrom(from, to, "ties") ? TIES
                : text.isFrom(from, to, "card") ? CARD
                : text.isFrom(from, to, "cloth") ? CLOTH
                : text.isFrom(from, to, "limit") ? LIMIT
                : STRANGE;
        }

        private int placeBehindBlanks(int first) {
            int place = first;
            while (place < text.length && text.at(place) == BLANK) {
                place++;
            }
            return place;
        }

        private int placeBehindFigures(int first) {
            int place = first;
            while (place < text.length && isFigure(text.at(place))) {
                place++;
            }
            return place;
        }

        private int placeBehindWord(int first) {
            int place = first;
            while (place < text.length && isWordLetter(text.at(place))) {
                place++;
            }
            return place;
        }

        private static boolean isFigure(int letter) {
            return letter >= '0' && letter <= '9';
        }

        private static boolean isWordLetter(int letter) {
            return letter >= 'a' && letter <= 'z';
        }
    }

    /** The looms that can come again by what is UNDONE: a ring, so that the oldest one gives way. */
    private static final class History {
        int known;
        private int next;
        private final Loom[] looms = new Loom[MOST_UNDONE];

        History() {
            for (int i = 0; i < looms.length; i++) {
                looms[i] = new Loom();
            }
        }

        void remember(Loom loom) {
            if (next >= 0 && next < looms.length) {
                looms[next].become(loom);
            }
            next = next + 1 < MOST_UNDONE ? next + 1 : 0;
            known = Math.min(known + 1, MOST_UNDONE);
        }

        boolean restore(Loom loom) {
            if (known <= 0) {
                return false;
            }
            next = next > 0 ? next - 1 : MOST_UNDONE - 1;
            known--;
            if (next < looms.length) {
                loom.become(looms[next]);
            }
            return true;
        }

        void empty() {
            known = 0;
        }
    }

    /** MENDED, sought on a loom of its own, as nothing is changed by asking. */
    private static final class Mender {
        int fewest;
        int lower;
        int other;
        private final Loom trial = new Loom();

        void search(Loom loom) {
            trial.become(loom);
            fewest = NONE;
            lower = NONE;
            other = NONE;
            if (trial.hasNothingTooLong()) {
                fewest = 0;
                return;
            }
            lower = firstThatMends(0);
            if (lower != NONE) {
                fewest = 1;
                return;
            }
            searchTwo();
        }

        private void searchTwo() {
            for (int place = 0; place < trial.places(); place++) {
                trial.punch(place);
                int second = firstThatMends(place + 1);
                trial.punch(place);
                if (second != NONE) {
                    fewest = 2;
                    lower = place;
                    other = second;
                    return;
                }
            }
        }

        private int firstThatMends(int first) {
            int longCards = trial.longCards();
            int longEnds = trial.longEnds();
            for (int place = first; place < trial.places(); place++) {
                // Trying is dear, and a place that leaves untouched what is TOO LONG can't mend it.
                if (!trial.altersAll(place, longCards, longEnds)) {
                    continue;
                }
                trial.punch(place);
                boolean isMended = trial.hasNothingTooLong();
                trial.punch(place);
                if (isMended) {
                    return place;
                }
            }
            return NONE;
        }
    }

    /** What was SEEN, and what it says of a loom. A suspect is a place, or NO_PLACE. */
    private static final class Sightings {
        int seen;
        private final int[] rows = new int[MOST_SEEN];
        private final int[] ends = new int[MOST_SEEN];
        private final boolean[] wasUp = new boolean[MOST_SEEN];

        boolean note(int row, int end, boolean isUp) {
            if (seen < 0 || seen >= MOST_SEEN) {
                return false;
            }
            rows[seen] = row;
            ends[seen] = end;
            wasUp[seen] = isUp;
            seen++;
            return true;
        }

        int empty() {
            int was = seen;
            seen = 0;
            return was;
        }

        int howManySuspects(Loom loom) {
            return Long.bitCount(suspectBits(loom));
        }

        int firstSuspect(Loom loom) {
            for (int place = NO_PLACE; place < loom.places(); place++) {
                if (isSuspect(loom, place)) {
                    return place;
                }
            }
            return NONE;
        }

        int whereToLook(Loom loom) {
            long suspects = suspectBits(loom);
            int all = Long.bitCount(suspects);
            if (all <= 1) {
                return NONE;
            }
            int best = NONE;
            int least = all + 1;
            for (int row = 0; row < loom.cards; row++) {
                for (int end = 0; end < loom.ends; end++) {
                    int up = howManySayUp(loom, suspects, row, end);
                    int greater = Math.max(up, all - up);
                    if (greater < least) {
                        least = greater;
                        best = MOST_ENDS * row + end;
                    }
                }
            }
            return best;
        }

        private static int howManySayUp(Loom loom, long suspects, int row, int end) {
            int up = 0;
            for (int place = NO_PLACE; place < loom.places(); place++) {
                boolean isAmongThem = (suspects & bitOf(place)) != 0;
                up += isAmongThem && isUpBy(loom, place, row, end) ? 1 : 0;
            }
            return up;
        }

        private long suspectBits(Loom loom) {
            long bits = 0;
            for (int place = NO_PLACE; place < loom.places(); place++) {
                bits |= isSuspect(loom, place) ? bitOf(place) : 0;
            }
            return bits;
        }

        private static long bitOf(int place) {
            return 1L << place - NO_PLACE;
        }

        private boolean isSuspect(Loom loom, int place) {
            for (int i = 0; i < seen && i < MOST_SEEN; i++) {
                if (!loom.hasEnd(ends[i]) || isUpBy(loom, place, rows[i], ends[i]) != wasUp[i]) {
                    return false;
                }
            }
            return true;
        }

        private static boolean isUpBy(Loom loom, int place, int row, int end) {
            int card = loom.cardOfRow(row);
            boolean isPunchedThere = place == loom.placeOf(card, loom.hookOf(end));
            return loom.isUp(card, end) != isPunchedThere;
        }
    }
}
