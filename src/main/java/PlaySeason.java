import java.util.Arrays;

/** A season of plays in one house: its titles, the plan of its nights, and what was seen of its titles. */
public final class PlaySeason {
    public static final int NONE = -1, UNKNOWN = -101, OUTSIDE = -102, STATE = -103, FULL = -104;

    private static final int NIGHTS = 12;
    private static final int MOST_TITLES = 5;
    private static final int KINDS = 5;
    private static final int SETS = 5;
    private static final int CASTS = 5;
    private static final int MOST_LETTERS = 40;
    private static final int MOST_SEEN = 6;
    private static final int MOST_OPEN = 4;
    private static final int MOST_BESTS = 8;
    private static final int MOST_DRAWN = 20;

    private static final int TITLE_KIND = 0;
    private static final int GALA = 1;
    private static final int FAREWELL = 2;
    private static final int ROW = 3;
    private static final int DRAW = 4;
    private static final String KIND_LETTERS = "tgfrd";

    private static final int BY_RIGHTS = 1;
    private static final int BY_SETS = 2;
    private static final int BY_REST = 3;
    private static final int BY_ONCE = 4;
    private static final int BY_BEHIND = 5;
    private static final int BY_ALONE = 6;

    private static final int TITLE_WHATS = 9;
    private static final int NIGHT_WHATS = 3;
    private static final int BEST_WHATS = 3;
    private static final int DRAWN_WHATS = 3;
    private static final int COUNT_WHATS = 10;

    /** As bits, the KINDS of which each thing that can be SEEN is so: all but GALAS, all but ROWS, GALAS, DRAWS. */
    private static final int[] KINDS_IF_SO = {0b11001, 0b10111, 0b00110, 0b10000};
    private static final int SEEN_WHATS = 4;
    private static final int ALL_KINDS = 0b11111;

    private final Page page = new Page();
    private final Season now = new Season();
    private final Season kept = new Season();
    private final Plan scratch = new Plan(now.titles);
    private final Search search = new Search(now.titles, scratch);
    private boolean imageStands;
    private int housesRead;
    private int bestsTold;

    public PlaySeason() {
    }

    // ---- the house

    public int letter(int code) {
        if (code < 32 || code > 126) {
            return OUTSIDE;
        }
        if (page.length >= MOST_LETTERS) {
            return FULL;
        }
        page.put(code);
        return page.length;
    }

    public int blank() {
        int had = page.length;
        page.length = 0;
        return had;
    }

    public int fault() {
        return page.firstFault();
    }

    public int house() {
        if (!page.isHouse()) {
            return STATE;
        }
        now.titles.read(page);
        now.plan.darken();
        now.seen.size = 0;
        page.length = 0;
        imageStands = false;
        housesRead++;
        return now.titles.size;
    }

    public int plan() {
        if (!hasHouse() || !page.isPlan(now.titles.size)) {
            return STATE;
        }
        now.plan.read(page);
        page.length = 0;
        return now.plan.lit();
    }

    public int title(int title, int what) {
        if (!now.titles.has(title)) {
            return UNKNOWN;
        }
        if (what < 0 || what >= TITLE_WHATS) {
            return OUTSIDE;
        }
        return ofTitle(title, what);
    }

    public int as(int title, int kind) {
        if (!now.titles.has(title)) {
            return UNKNOWN;
        }
        if (!isKind(kind)) {
            return OUTSIDE;
        }
        return now.titles.at(title).isOf(kind) ? title : NONE;
    }

    public int night(int night, int what) {
        if (!hasHouse() || !isNight(night)) {
            return UNKNOWN;
        }
        if (what < 0 || what >= NIGHT_WHATS) {
            return OUTSIDE;
        }
        return ofNight(night, what);
    }

    // ---- what is done

    public int play(int night, int title) {
        if (!hasHouse() || !isNight(night)) {
            return UNKNOWN;
        }
        if (title != NONE && !now.titles.has(title)) {
            return UNKNOWN;
        }
        now.plan.nights[night] = title;
        now.plan.weigh();
        return now.plan.broken;
    }

    public int delay(int by) {
        if (by < 1 || by >= NIGHTS) {
            return OUTSIDE;
        }
        if (!hasHouse()) {
            return STATE;
        }
        now.plan.shift(by);
        return now.plan.lit();
    }

    public int add(int kind, int set, int cast) {
        if (!isKind(kind) || set < 0 || set >= SETS || cast < 0 || cast >= CASTS) {
            return OUTSIDE;
        }
        if (!hasHouse()) {
            return STATE;
        }
        if (now.titles.size >= MOST_TITLES) {
            return FULL;
        }
        now.titles.append(kind, set, cast);
        now.plan.weigh();
        return now.titles.size - 1;
    }

    public int rights(int title, int first, int last) {
        if (!now.titles.has(title)) {
            return UNKNOWN;
        }
        if (!isSpan(first, last)) {
            return OUTSIDE;
        }
        Title changed = now.titles.at(title);
        changed.first = first;
        changed.last = last;
        now.plan.weigh();
        return now.plan.broken;
    }

    public int be(int title, int kind) {
        if (!now.titles.has(title)) {
            return UNKNOWN;
        }
        if (!isKind(kind)) {
            return OUTSIDE;
        }
        Title changed = now.titles.at(title);
        int was = changed.kind;
        changed.kind = kind;
        now.plan.weigh();
        return was;
    }

    public int best(int first, int last, int what) {
        if (!hasHouse() || !isSpan(first, last)) {
            return UNKNOWN;
        }
        if (what < 0 || what >= BEST_WHATS) {
            return OUTSIDE;
        }
        if (bestsTold >= MOST_BESTS || now.plan.darkWithin(first, last) > MOST_OPEN) {
            return STATE;
        }
        bestsTold++;
        search.seek(now.plan, first, last);
        if (what == 0) {
            return search.lost;
        }
        if (what == 1) {
            return search.earned;
        }
        now.plan.take(search.nights);
        return now.plan.lit();
    }

    // ---- what is told of the plan

    public int rank(int place) {
        for (int title = 0; title < now.titles.size; title++) {
            if (now.plan.placeOf(title) == place) {
                return title;
            }
        }
        return UNKNOWN;
    }

    // ---- what is seen

    public int see(int title, int what, boolean could) {
        if (!now.titles.has(title)) {
            return UNKNOWN;
        }
        if (what < 0 || what >= SEEN_WHATS) {
            return OUTSIDE;
        }
        if (now.seen.size >= MOST_SEEN) {
            return FULL;
        }
        now.seen.note(title, kindsLeft(what, could));
        return now.seen.size;
    }

    public int forget() {
        int had = now.seen.size;
        now.seen.size = 0;
        return had;
    }

    public int drawn(int times, int seed, int what) {
        if (times < 1 || times > MOST_DRAWN || seed < 0 || what < 0 || what >= DRAWN_WHATS) {
            return OUTSIDE;
        }
        if (!hasHouse()) {
            return STATE;
        }
        int broken = 0;
        int earned = 0;
        int next = seed;
        for (int time = 0; time < times; time++) {
            next = scratch.drawAll(next);
            broken += scratch.broken;
            earned += scratch.earned;
        }
        if (what == 0) {
            return broken;
        }
        return what == 1 ? earned : next;
    }

    // ---- what is told of all

    public int image() {
        if (!hasHouse()) {
            return STATE;
        }
        kept.copy(now);
        imageStands = true;
        return now.titles.size;
    }

    public int restore() {
        if (!imageStands) {
            return STATE;
        }
        now.copy(kept);
        return now.titles.size;
    }

    public int count(int what) {
        switch (what) {
            case 0:
                return now.titles.size;
            case 1:
                return now.plan.lit();
            case 2:
                return now.plan.broken;
            case 3:
                return now.plan.lost;
            case 4:
                return now.plan.earned;
            case 5:
                return now.plan.unlike();
            case 6:
                return now.seen.size;
            case 7:
                return page.length;
            case 8:
                return housesRead;
            case 9:
                return bestsTold;
            default:
                return OUTSIDE;
        }
    }

    public long digest() {
        long h = 1459;
        for (int title = 0; title < now.titles.size; title++) {
            for (int what = 0; what < TITLE_WHATS; what++) {
                h = 31 * h + ofTitle(title, what);
            }
        }
        if (hasHouse()) {
            for (int night = 0; night < NIGHTS; night++) {
                for (int what = 0; what < NIGHT_WHATS; what++) {
                    h = 31 * h + ofNight(night, what);
                }
            }
        }
        for (int place = 0; place < now.titles.size; place++) {
            h = 31 * h + rank(place);
        }
        for (int place = 0; place < page.length; place++) {
            h = 31 * h + page.codes[place];
        }
        for (int what = 0; what < COUNT_WHATS; what++) {
            h = 31 * h + count(what);
        }
        return h;
    }

    // ---- what the calls share

    private boolean hasHouse() {
        return now.titles.size > 0;
    }

    private static boolean isNight(int night) {
        return night >= 0 && night < NIGHTS;
    }

    private static boolean isSpan(int first, int last) {
        return isNight(first) && isNight(last) && first <= last;
    }

    private static boolean isKind(int kind) {
        return kind >= 0 && kind < KINDS;
    }

    private int ofTitle(int title, int what) {
        Title told = now.titles.at(title);
        switch (what) {
            case 0:
                return told.kind;
            case 1:
                return told.set;
            case 2:
                return told.cast;
            case 3:
                return told.first;
            case 4:
                return told.last;
            case 5:
                return told.fill;
            case 6:
                return now.plan.timesOf(title);
            case 7:
                return now.seen.sortsOf(title);
            default:
                return ask(now.seen.sortsOf(title));
        }
    }

    private int ofNight(int night, int what) {
        if (what == 0) {
            return now.plan.nights[night];
        }
        return what == 1 ? now.plan.breaks[night] : now.plan.seats[night];
    }

    private static int kindsLeft(int what, boolean could) {
        return could ? KINDS_IF_SO[what] : ALL_KINDS & ~KINDS_IF_SO[what];
    }

    /** What to ask next of a title that can be of these kinds; of like ones the least, so a later one must be better. */
    private static int ask(int sorts) {
        if (sorts == 0) {
            return NONE;
        }
        int asked = NONE;
        int fewest = KINDS + 1;
        for (int what = 0; what < SEEN_WHATS; what++) {
            int ifSo = Integer.bitCount(sorts & kindsLeft(what, true));
            int ifNot = Integer.bitCount(sorts & kindsLeft(what, false));
            int worst = Math.max(ifSo, ifNot);
            if (worst < fewest) {
                fewest = worst;
                asked = what;
            }
        }
        return asked;
    }

    /** THE PAGE: letters by their codes, and how they are read. */
    private static final class Page {
        /** Letters from the start of a title to the start of the next one. */
        static final int STEP = 7;
        static final int LETTERS_OF_HOUSE = STEP * MOST_TITLES - 1;

        final int[] codes = new int[MOST_LETTERS];
        int length;

        void put(int code) {
            if (length >= 0 && length < MOST_LETTERS) {
                codes[length] = code;
                length++;
            }
        }

        int firstFault() {
            for (int place = 0; place < length; place++) {
                if (!fits(place)) {
                    return place;
                }
            }
            return length;
        }

        boolean isHouse() {
            return firstFault() == length && length % STEP == STEP - 1;
        }

        boolean isPlan(int titles) {
            if (length != NIGHTS) {
                return false;
            }
            for (int place = 0; place < NIGHTS; place++) {
                if (codes[place] != '.' && !isWithin(place, '0', '0' + titles - 1)) {
                    return false;
                }
            }
            return true;
        }

        /** Whether a house can have the letter at this place, those ahead of it being as they should. */
        private boolean fits(int place) {
            if (place < 0 || place >= LETTERS_OF_HOUSE) {
                return false;
            }
            switch (place % STEP) {
                case 0:
                    return KIND_LETTERS.indexOf((char) codes[place]) >= 0;
                case 1:
                    return isWithin(place, '0', '0' + SETS - 1);
                case 2:
                    return isWithin(place, '0', '0' + CASTS - 1);
                case 3:
                    return isWithin(place, 'a', 'a' + NIGHTS - 1);
                case 4:
                    return isWithin(place, codes[place - 1], 'a' + NIGHTS - 1);
                case 5:
                    return isWithin(place, '1', '9');
                default:
                    return codes[place] == ',';
            }
        }

        private boolean isWithin(int place, int least, int most) {
            return codes[place] >= least && codes[place] <= most;
        }
    }

    /** One TITLE. */
    private static final class Title {
        int kind;
        int set;
        int cast;
        int first;
        int last;
        int fill;

        boolean isOf(int asked) {
            return asked == TITLE_KIND || asked == kind || asked == GALA && kind == FAREWELL;
        }

        void copy(Title other) {
            kind = other.kind;
            set = other.set;
            cast = other.cast;
            first = other.first;
            last = other.last;
            fill = other.fill;
        }

        void read(Page page, int start) {
            if (start < 0 || start + Page.STEP > MOST_LETTERS) {
                return;
            }
            kind = KIND_LETTERS.indexOf((char) page.codes[start]);
            set = page.codes[start + 1] - '0';
            cast = page.codes[start + 2] - '0';
            first = page.codes[start + 3] - 'a';
            last = page.codes[start + 4] - 'a';
            fill = page.codes[start + 5] - '0';
        }
    }

    /** The TITLES of a HOUSE; no titles is no HOUSE. */
    private static final class Titles {
        final Title[] all = new Title[MOST_TITLES];
        int size;

        Titles() {
            for (int title = 0; title < MOST_TITLES; title++) {
                all[title] = new Title();
            }
        }

        boolean has(int title) {
            return title >= 0 && title < size;
        }

        /** Only for a title that there is. */
        Title at(int title) {
            return all[title];
        }

        void append(int kind, int set, int cast) {
            if (size >= MOST_TITLES) {
                return;
            }
            Title added = all[size];
            added.kind = kind;
            added.set = set;
            added.cast = cast;
            added.first = 0;
            added.last = NIGHTS - 1;
            added.fill = 5;
            size++;
        }

        void read(Page page) {
            size = Math.min((page.length + 1) / Page.STEP, MOST_TITLES);
            for (int title = 0; title < size; title++) {
                all[title].read(page, title * Page.STEP);
            }
        }

        void copy(Titles other) {
            size = other.size;
            for (int title = 0; title < MOST_TITLES; title++) {
                all[title].copy(other.all[title]);
            }
        }
    }

    /** A PLAN, and what it breaks and earns; weigh() is due whenever its nights or its titles have changed. */
    private static final class Plan {
        final Titles titles;
        final int[] nights = new int[NIGHTS];
        final int[] breaks = new int[NIGHTS];
        final int[] seats = new int[NIGHTS];
        final int[] timesOn = new int[MOST_TITLES];
        final int[] earnedBy = new int[MOST_TITLES];
        final int[] lastOfCast = new int[CASTS];
        int broken;
        int lost;
        int earned;

        Plan(Titles titles) {
            this.titles = titles;
            Arrays.fill(nights, NONE);
            lost = NIGHTS;
        }

        void darken() {
            Arrays.fill(nights, NONE);
            weigh();
        }

        void read(Page page) {
            for (int night = 0; night < NIGHTS; night++) {
                nights[night] = page.codes[night] == '.' ? NONE : page.codes[night] - '0';
            }
            weigh();
        }

        void take(int[] others) {
            System.arraycopy(others, 0, nights, 0, NIGHTS);
            weigh();
        }

        void shift(int by) {
            for (int night = NIGHTS - 1; night >= 0; night--) {
                int from = night - by;
                nights[night] = isNight(from) ? nights[from] : NONE;
            }
            weigh();
        }

        /** Fills each night by a draw and weighs that: the seed then. */
        int drawAll(int seed) {
            long next = seed;
            for (int night = 0; night < NIGHTS; night++) {
                next = (1103515245L * next + 12345L) % 2147483648L;
                nights[night] = (int) (next / 65536L % (titles.size + 1)) - 1;
            }
            weigh();
            return (int) next;
        }

        int darkWithin(int first, int last) {
            int dark = 0;
            for (int night = first; night <= last && night < NIGHTS; night++) {
                dark += isDark(night) ? 1 : 0;
            }
            return dark;
        }

        boolean isDark(int night) {
            return titleOn(night) == NONE;
        }

        int lit() {
            return NIGHTS - darkWithin(0, NIGHTS - 1);
        }

        int timesOf(int title) {
            return title >= 0 && title < MOST_TITLES ? timesOn[title] : 0;
        }

        int unlike() {
            int on = 0;
            for (int title = 0; title < MOST_TITLES; title++) {
                on += timesOn[title] > 0 ? 1 : 0;
            }
            return on;
        }

        /** The place of a title in RANKS. */
        int placeOf(int title) {
            int place = 0;
            for (int other = 0; other < titles.size; other++) {
                place += comesAhead(other, title) ? 1 : 0;
            }
            return place;
        }

        private boolean comesAhead(int one, int other) {
            if (timesOn[one] != timesOn[other]) {
                return timesOn[one] > timesOn[other];
            }
            if (earnedBy[one] != earnedBy[other]) {
                return earnedBy[one] > earnedBy[other];
            }
            return one < other;
        }

        void weigh() {
            startAnew();
            for (int night = 0; night < NIGHTS; night++) {
                int title = titleOn(night);
                if (title == NONE) {
                    breaks[night] = 0;
                    seats[night] = 0;
                    lost++;
                } else {
                    breaks[night] = breakAt(night, title);
                    seats[night] = seatsAt(night, title);
                    tally(night, title);
                }
            }
        }

        private void startAnew() {
            broken = 0;
            lost = 0;
            earned = 0;
            Arrays.fill(timesOn, 0);
            Arrays.fill(earnedBy, 0);
            Arrays.fill(lastOfCast, NONE);
            for (int night = 0; night < NIGHTS; night++) {
                int title = titleOn(night);
                if (title != NONE) {
                    lastOfCast[titles.at(title).cast] = night;
                }
            }
        }

        private void tally(int night, int title) {
            timesOn[title]++;
            if (breaks[night] == 0) {
                earned += seats[night];
                earnedBy[title] += seats[night];
            } else {
                broken++;
                lost++;
            }
        }

        /** By which the plan breaks at a night; timesOn tells of the nights ahead of it alone. */
        private int breakAt(int night, int title) {
            Title on = titles.at(title);
            if (night < on.first || night > on.last) {
                return BY_RIGHTS;
            }
            int ahead = titleOn(night - 1);
            if (ahead != NONE && titles.at(ahead).set != on.set) {
                return BY_SETS;
            }
            if (isCastOn(night - 1, on.cast) && isCastOn(night - 2, on.cast)) {
                return BY_REST;
            }
            if (on.isOf(GALA) && timesOn[title] > 0) {
                return BY_ONCE;
            }
            if (on.kind == FAREWELL && lastOfCast[on.cast] > night) {
                return BY_BEHIND;
            }
            if (on.kind == ROW && ahead != title && titleOn(night + 1) != title) {
                return BY_ALONE;
            }
            return 0;
        }

        private int seatsAt(int night, int title) {
            Title on = titles.at(title);
            int filled = 100 * on.fill;
            for (int fade = Math.min(timesOn[title], 3); fade > 0; fade--) {
                filled = 70 * filled / 100;
            }
            if (on.isOf(GALA)) {
                filled = 3 * filled / 2;
            }
            if (isDrawnBy(night - 1, title) || isDrawnBy(night + 1, title)) {
                filled += 50;
            }
            return filled;
        }

        private boolean isDrawnBy(int beside, int title) {
            int other = titleOn(beside);
            return other != NONE && other != title && titles.at(other).kind == DRAW;
        }

        private boolean isCastOn(int night, int cast) {
            int title = titleOn(night);
            return title != NONE && titles.at(title).cast == cast;
        }

        /** The title of a night; none where the night is dark, or ahead of the first or behind the last one. */
        private int titleOn(int night) {
            if (night < 0 || night >= NIGHTS) {
                return NONE;
            }
            int title = nights[night];
            return title >= 0 && title < titles.size ? title : NONE;
        }
    }

    /** What is SEEN: of which title, and which kinds each thing leaves. */
    private static final class Seen {
        final int[] ofTitle = new int[MOST_SEEN];
        final int[] leaves = new int[MOST_SEEN];
        int size;

        void note(int title, int left) {
            if (size >= 0 && size < MOST_SEEN) {
                ofTitle[size] = title;
                leaves[size] = left;
                size++;
            }
        }

        int sortsOf(int title) {
            int sorts = ALL_KINDS;
            for (int place = 0; place < size; place++) {
                if (ofTitle[place] == title) {
                    sorts &= leaves[place];
                }
            }
            return sorts;
        }

        void copy(Seen other) {
            size = other.size;
            System.arraycopy(other.ofTitle, 0, ofTitle, 0, MOST_SEEN);
            System.arraycopy(other.leaves, 0, leaves, 0, MOST_SEEN);
        }
    }

    /** All that an IMAGE keeps. */
    private static final class Season {
        final Titles titles = new Titles();
        final Plan plan = new Plan(titles);
        final Seen seen = new Seen();

        /** Titles ahead of the plan, which is weighed by them. */
        void copy(Season other) {
            titles.copy(other.titles);
            plan.take(other.plan.nights);
            seen.copy(other.seen);
        }
    }

    /** Looks for the BEST plan: all ways are tried in order by nights, so of like ones the first is kept. */
    private static final class Search {
        final Titles titles;
        final Plan trial;
        final int[] open = new int[MOST_OPEN];
        final int[] nights = new int[NIGHTS];
        int openCount;
        int lost;
        int earned;

        Search(Titles titles, Plan trial) {
            this.titles = titles;
            this.trial = trial;
        }

        void seek(Plan start, int first, int last) {
            gatherOpen(start, first, last);
            System.arraycopy(start.nights, 0, trial.nights, 0, NIGHTS);
            int ways = 1;
            for (int place = 0; place < openCount; place++) {
                ways *= titles.size + 1;
            }
            for (int way = 0; way < ways; way++) {
                fill(way);
                trial.weigh();
                if (way == 0 || isBetter()) {
                    keep();
                }
            }
        }

        private void gatherOpen(Plan start, int first, int last) {
            openCount = 0;
            for (int night = first; night <= last && openCount < MOST_OPEN; night++) {
                if (start.isDark(night)) {
                    open[openCount] = night;
                    openCount++;
                }
            }
        }

        /** A way is a number with a digit for each open night, the first night's the highest; 0 is dark, 1 is title 0. */
        private void fill(int way) {
            int base = titles.size + 1;
            int rest = way;
            for (int place = openCount - 1; place >= 0; place--) {
                trial.nights[open[place]] = rest % base - 1;
                rest /= base;
            }
        }

        private boolean isBetter() {
            return trial.lost < lost || trial.lost == lost && trial.earned > earned;
        }

        private void keep() {
            lost = trial.lost;
            earned = trial.earned;
            System.arraycopy(trial.nights, 0, nights, 0, NIGHTS);
        }
    }
}
