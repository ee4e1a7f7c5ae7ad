import java.util.ArrayList;
import java.util.Comparator;
import java.util.List;

/**
 * The document once more, written for plainness alone: nothing is kept that can be worked out,
 * and every word of the document has a method of its own. Only for tests.
 */
final class Model {
    private static final int NONE = -1, UNKNOWN = -101, OUTSIDE = -102, STATE = -103, FULL = -104;

    /** Kind, set, cast, first, last, fill. */
    private record Title(int kind, int set, int cast, int first, int last, int fill) {
        boolean gala() {
            return kind == 1 || kind == 2;
        }
    }

    private record Sight(int title, int what, boolean could) {
    }

    private record Image(List<Title> titles, List<Integer> nights, List<Sight> seen) {
    }

    private String page = "";
    private List<Title> titles = new ArrayList<>();
    private List<Integer> nights = dark();
    private List<Sight> seen = new ArrayList<>();
    private Image image;
    private int houses;
    private int bests;

    private static List<Integer> dark() {
        List<Integer> all = new ArrayList<>();
        for (int night = 0; night < 12; night++) {
            all.add(NONE);
        }
        return all;
    }

    int letter(int code) {
        if (code < 32 || code > 126) {
            return OUTSIDE;
        }
        if (page.length() == 40) {
            return FULL;
        }
        page += (char) code;
        return page.length();
    }

    int blank() {
        int had = page.length();
        page = "";
        return had;
    }

    private static boolean isHouse(String text) {
        String[] parts = text.split(",", -1);
        if (parts.length > 5) {
            return false;
        }
        for (String part : parts) {
            if (!part.matches("[tgfrd][0-4][0-4][a-l][a-l][1-9]") || part.charAt(4) < part.charAt(3)) {
                return false;
            }
        }
        return true;
    }

    /** Whether some house begins with the text: one that ends as this one might is looked for. */
    private static boolean beginsHouse(String text) {
        String[] ends = {"", "t00ll9", "00ll9", "0ll9", "ll9", "l9", "9"};
        for (String end : ends) {
            if (isHouse(text + end)) {
                return true;
            }
        }
        return false;
    }

    int fault() {
        for (int place = 0; place < page.length(); place++) {
            if (!beginsHouse(page.substring(0, place + 1))) {
                return place;
            }
        }
        return page.length();
    }

    int house() {
        if (!isHouse(page)) {
            return STATE;
        }
        titles = new ArrayList<>();
        for (String part : page.split(",")) {
            titles.add(new Title("tgfrd".indexOf(part.charAt(0)), part.charAt(1) - '0', part.charAt(2) - '0',
                part.charAt(3) - 'a', part.charAt(4) - 'a', part.charAt(5) - '0'));
        }
        nights = dark();
        seen = new ArrayList<>();
        image = null;
        houses++;
        page = "";
        return titles.size();
    }

    int plan() {
        if (titles.isEmpty() || page.length() != 12) {
            return STATE;
        }
        List<Integer> read = new ArrayList<>();
        for (char c : page.toCharArray()) {
            int title = ".01234".indexOf(c) - 1;
            if (title == -2 || title >= titles.size()) {
                return STATE;
            }
            read.add(title);
        }
        nights = read;
        page = "";
        return lit();
    }

    private boolean unknown(int title) {
        return title < 0 || title >= titles.size();
    }

    int title(int title, int what) {
        if (unknown(title)) {
            return UNKNOWN;
        }
        Title t = titles.get(title);
        return switch (what) {
            case 0 -> t.kind();
            case 1 -> t.set();
            case 2 -> t.cast();
            case 3 -> t.first();
            case 4 -> t.last();
            case 5 -> t.fill();
            case 6 -> (int) nights.stream().filter(n -> n == title).count();
            case 7 -> sorts(title).stream().mapToInt(kind -> 1 << kind).sum();
            case 8 -> ask(sorts(title));
            default -> OUTSIDE;
        };
    }

    private static boolean couldBe(int kind, int what) {
        boolean gala = kind == 1 || kind == 2;
        return switch (what) {
            case 0 -> !gala;
            case 1 -> kind != 3;
            case 2 -> gala;
            default -> kind == 4;
        };
    }

    private List<Integer> sorts(int title) {
        List<Integer> sorts = new ArrayList<>();
        for (int kind = 0; kind < 5; kind++) {
            int of = kind;
            if (seen.stream().filter(s -> s.title() == title).allMatch(s -> couldBe(of, s.what()) == s.could())) {
                sorts.add(kind);
            }
        }
        return sorts;
    }

    private static int ask(List<Integer> sorts) {
        if (sorts.isEmpty()) {
            return NONE;
        }
        int asked = NONE;
        long fewest = 99;
        for (int what = 0; what < 4; what++) {
            int of = what;
            long so = sorts.stream().filter(kind -> couldBe(kind, of)).count();
            long worst = Math.max(so, sorts.size() - so);
            if (worst < fewest) {
                fewest = worst;
                asked = what;
            }
        }
        return asked;
    }

    int as(int title, int kind) {
        if (unknown(title)) {
            return UNKNOWN;
        }
        if (kind < 0 || kind > 4) {
            return OUTSIDE;
        }
        int is = titles.get(title).kind();
        boolean so = kind == 0 || kind == is || is == 2 && kind == 1;
        return so ? title : NONE;
    }

    private Title at(List<Integer> plan, int night) {
        return night < 0 || night > 11 || plan.get(night) == NONE ? null : titles.get(plan.get(night));
    }

    private boolean wasOn(List<Integer> plan, int night) {
        return plan.subList(0, night).contains(plan.get(night));
    }

    private boolean castOn(List<Integer> plan, int night, int cast) {
        Title t = at(plan, night);
        return t != null && t.cast() == cast;
    }

    private boolean castBehind(List<Integer> plan, int night) {
        for (int later = night + 1; later < 12; later++) {
            if (castOn(plan, later, at(plan, night).cast())) {
                return true;
            }
        }
        return false;
    }

    private int breaks(List<Integer> plan, int night) {
        Title t = at(plan, night);
        if (t == null) {
            return 0;
        }
        Title ahead = at(plan, night - 1);
        boolean[] so = {
            false,
            night < t.first() || night > t.last(),
            ahead != null && ahead.set() != t.set(),
            castOn(plan, night - 1, t.cast()) && castOn(plan, night - 2, t.cast()),
            t.gala() && wasOn(plan, night),
            t.kind() == 2 && castBehind(plan, night),
            t.kind() == 3 && (night == 0 || !plan.get(night - 1).equals(plan.get(night)))
                && (night == 11 || !plan.get(night + 1).equals(plan.get(night)))};
        for (int by = 1; by <= 6; by++) {
            if (so[by]) {
                return by;
            }
        }
        return 0;
    }

    private boolean drawn(List<Integer> plan, int night, int beside) {
        Title other = at(plan, beside);
        return other != null && !plan.get(beside).equals(plan.get(night)) && other.kind() == 4;
    }

    private int seats(List<Integer> plan, int night) {
        Title t = at(plan, night);
        if (t == null) {
            return 0;
        }
        int seats = 100 * t.fill();
        int fades = 0;
        for (int earlier = 0; earlier < night; earlier++) {
            if (plan.get(earlier).equals(plan.get(night)) && fades < 3) {
                seats = seats * 70 / 100;
                fades++;
            }
        }
        if (t.gala()) {
            seats = seats * 3 / 2;
        }
        return drawn(plan, night, night - 1) || drawn(plan, night, night + 1) ? seats + 50 : seats;
    }

    private int broken(List<Integer> plan) {
        int broken = 0;
        for (int night = 0; night < 12; night++) {
            broken += breaks(plan, night) > 0 ? 1 : 0;
        }
        return broken;
    }

    private int lost(List<Integer> plan) {
        return broken(plan) + (int) plan.stream().filter(n -> n == NONE).count();
    }

    /** Of one title, or of all of them (NONE). */
    private int earned(List<Integer> plan, int title) {
        int earned = 0;
        for (int night = 0; night < 12; night++) {
            if ((title == NONE || plan.get(night) == title) && breaks(plan, night) == 0) {
                earned += seats(plan, night);
            }
        }
        return earned;
    }

    private int lit() {
        return (int) nights.stream().filter(n -> n != NONE).count();
    }

    int night(int night, int what) {
        if (titles.isEmpty() || night < 0 || night > 11) {
            return UNKNOWN;
        }
        return switch (what) {
            case 0 -> nights.get(night);
            case 1 -> breaks(nights, night);
            case 2 -> seats(nights, night);
            default -> OUTSIDE;
        };
    }

    int play(int night, int title) {
        if (titles.isEmpty() || night < 0 || night > 11 || title != NONE && unknown(title)) {
            return UNKNOWN;
        }
        nights.set(night, title);
        return broken(nights);
    }

    int delay(int by) {
        if (by < 1 || by > 11) {
            return OUTSIDE;
        }
        if (titles.isEmpty()) {
            return STATE;
        }
        for (int time = 0; time < by; time++) {
            nights.remove(11);
            nights.add(0, NONE);
        }
        return lit();
    }

    int add(int kind, int set, int cast) {
        if (kind < 0 || kind > 4 || set < 0 || set > 4 || cast < 0 || cast > 4) {
            return OUTSIDE;
        }
        if (titles.isEmpty()) {
            return STATE;
        }
        if (titles.size() == 5) {
            return FULL;
        }
        titles.add(new Title(kind, set, cast, 0, 11, 5));
        return titles.size() - 1;
    }

    int rights(int title, int first, int last) {
        if (unknown(title)) {
            return UNKNOWN;
        }
        if (first < 0 || last > 11 || last < first) {
            return OUTSIDE;
        }
        Title t = titles.get(title);
        titles.set(title, new Title(t.kind(), t.set(), t.cast(), first, last, t.fill()));
        return broken(nights);
    }

    int be(int title, int kind) {
        if (unknown(title)) {
            return UNKNOWN;
        }
        if (kind < 0 || kind > 4) {
            return OUTSIDE;
        }
        Title t = titles.get(title);
        titles.set(title, new Title(kind, t.set(), t.cast(), t.first(), t.last(), t.fill()));
        return t.kind();
    }

    /** All plans that fill the dark nights from one on up to another one, in no order that is relied on. */
    private List<List<Integer>> ways(int first, int last) {
        List<List<Integer>> ways = new ArrayList<>();
        ways.add(nights);
        for (int night = first; night <= last; night++) {
            if (nights.get(night) != NONE) {
                continue;
            }
            List<List<Integer>> more = new ArrayList<>();
            for (List<Integer> way : ways) {
                for (int title = titles.size() - 1; title >= NONE; title--) {
                    List<Integer> filled = new ArrayList<>(way);
                    filled.set(night, title);
                    more.add(filled);
                }
            }
            ways = more;
        }
        return ways;
    }

    private static int byNights(List<Integer> one, List<Integer> other) {
        for (int night = 0; night < 12; night++) {
            if (!one.get(night).equals(other.get(night))) {
                return one.get(night) - other.get(night);
            }
        }
        return 0;
    }

    private boolean better(List<Integer> one, List<Integer> other) {
        if (lost(one) != lost(other)) {
            return lost(one) < lost(other);
        }
        if (earned(one, NONE) != earned(other, NONE)) {
            return earned(one, NONE) > earned(other, NONE);
        }
        return byNights(one, other) < 0;
    }

    int best(int first, int last, int what) {
        if (titles.isEmpty() || first < 0 || last > 11 || last < first) {
            return UNKNOWN;
        }
        if (what < 0 || what > 2) {
            return OUTSIDE;
        }
        if (nights.subList(first, last + 1).stream().filter(n -> n == NONE).count() > 4 || bests == 8) {
            return STATE;
        }
        bests++;
        List<Integer> best = null;
        for (List<Integer> way : ways(first, last)) {
            if (best == null || better(way, best)) {
                best = way;
            }
        }
        if (what == 0) {
            return lost(best);
        }
        if (what == 1) {
            return earned(best, NONE);
        }
        nights = new ArrayList<>(best);
        return lit();
    }

    private List<Integer> ranks() {
        List<Integer> order = new ArrayList<>();
        for (int title = 0; title < titles.size(); title++) {
            order.add(title);
        }
        order.sort(Comparator.<Integer>comparingInt(t -> -title(t, 6)).thenComparingInt(t -> -earned(nights, t)));
        return order;
    }

    int rank(int place) {
        return unknown(place) ? UNKNOWN : ranks().get(place);
    }

    int see(int title, int what, boolean could) {
        if (unknown(title)) {
            return UNKNOWN;
        }
        if (what < 0 || what > 3) {
            return OUTSIDE;
        }
        if (seen.size() == 6) {
            return FULL;
        }
        seen.add(new Sight(title, what, could));
        return seen.size();
    }

    int forget() {
        int had = seen.size();
        seen.clear();
        return had;
    }

    int drawn(int times, int seed, int what) {
        if (times < 1 || times > 20 || seed < 0 || what < 0 || what > 2) {
            return OUTSIDE;
        }
        if (titles.isEmpty()) {
            return STATE;
        }
        int broken = 0;
        int earned = 0;
        int now = seed;
        for (int time = 0; time < times; time++) {
            List<Integer> plan = new ArrayList<>();
            for (int night = 0; night < 12; night++) {
                now = (now * 1103515245 + 12345) & Integer.MAX_VALUE;
                plan.add((now >>> 16) % (titles.size() + 1) - 1);
            }
            broken += broken(plan);
            earned += earned(plan, NONE);
        }
        return what == 0 ? broken : what == 1 ? earned : now;
    }

    int image() {
        if (titles.isEmpty()) {
            return STATE;
        }
        image = new Image(List.copyOf(titles), List.copyOf(nights), List.copyOf(seen));
        return titles.size();
    }

    int restore() {
        if (image == null) {
            return STATE;
        }
        titles = new ArrayList<>(image.titles());
        nights = new ArrayList<>(image.nights());
        seen = new ArrayList<>(image.seen());
        return titles.size();
    }

    int count(int what) {
        return switch (what) {
            case 0 -> titles.size();
            case 1 -> lit();
            case 2 -> broken(nights);
            case 3 -> lost(nights);
            case 4 -> earned(nights, NONE);
            case 5 -> (int) nights.stream().filter(n -> n != NONE).distinct().count();
            case 6 -> seen.size();
            case 7 -> page.length();
            case 8 -> houses;
            case 9 -> bests;
            default -> OUTSIDE;
        };
    }

    long digest() {
        List<Integer> numbers = new ArrayList<>();
        for (int title = 0; title < titles.size(); title++) {
            for (int what = 0; what <= 8; what++) {
                numbers.add(title(title, what));
            }
        }
        for (int night = 0; night < 12 && !titles.isEmpty(); night++) {
            for (int what = 0; what <= 2; what++) {
                numbers.add(night(night, what));
            }
        }
        numbers.addAll(ranks());
        page.chars().forEach(numbers::add);
        for (int what = 0; what <= 9; what++) {
            numbers.add(count(what));
        }
        long h = 1459;
        for (int number : numbers) {
            h = 31 * h + number;
        }
        return h;
    }
}
