import java.math.BigInteger;

/** Boundary cases of BEST, RANKS, SEEN, SORTS, ASK, DRAWN and IMAGE, as the document's terms tell them. */
public final class BoundsFurtherTermsTest {
    private static final Bounds B = new Bounds();
    private static final BigInteger TWO_TO_31 = BigInteger.TWO.pow(31);
    private static final BigInteger TIMES = BigInteger.valueOf(1103515245);
    private static final BigInteger AND = BigInteger.valueOf(12345);

    public static void main(String[] args) {
        best();
        seen();
        drawn();
        B.sentence("terms.31", "An IMAGE keeps TITLES, the PLAN, SEEN.", BoundsFurtherTermsTest::keeps);
        B.end();
    }

    private static void best() {
        B.sentence("terms.20", "of all ways to fill the dark NIGHTS from one NIGHT on up to another one (at most four that are"
            + " dark)", BoundsFurtherTermsTest::fourDark);
        B.sentence("terms.21", "with any TITLES or none, the other NIGHTS as they are", BoundsFurtherTermsTest::othersAsTheyAre);
        B.sentence("terms.22", "that by which LOST of the whole PLAN is least, of like ones EARNED greatest",
            BoundsFurtherTermsTest::leastLost);
        B.sentence("terms.23", "of like ones the one that is first by NIGHTS (the first NIGHT in which two differ tells: dark"
            + " ahead of TITLE 0, that ahead of TITLE 1, and so on).", BoundsFurtherTermsTest::firstByNights);
        B.sentence("terms.24", "RANKS: the TITLES in order by how many NIGHTS they are on (most first), of like ones by SEATS of"
            + " all their NIGHTS that do not BREAK (most first), of like ones by number.", BoundsFurtherTermsTest::ranks);
    }

    private static void seen() {
        B.sentence("terms.25", "SEEN (6 at most)", BoundsFurtherTermsTest::sixSeen);
        B.sentence("terms.26", "SORTS (KINDS 0 to 4) it can be of, so that all that is SEEN of it is so (0: all but GALAS; 1: all"
            + " but ROWS; 2: GALAS; 3: DRAWS; a FAREWELL is a GALA): as bits.", BoundsFurtherTermsTest::sorts);
        B.sentence("terms.27", "which of these (0 to 3) to ask next, so that fewest of these are left at worst: of like ones the"
            + " least; none, if there are none.", BoundsFurtherTermsTest::asks);
    }

    private static void drawn() {
        B.sentence("terms.28", "DRAWN by a SEED, as they would be", BoundsFurtherTermsTest::asTheyWouldBe);
        B.sentence("terms.29", "each NIGHT is by a DRAW of one more than there are TITLES (0: dark, 1: TITLE 0, and so on)",
            BoundsFurtherTermsTest::oneMoreThanTitles);
        B.sentence("terms.30", "the next SEED each time: 1103515245 times it and 12345, its rest by 2 to the 31; then that by"
            + " 65536 (rounded down), its rest.", BoundsFurtherTermsTest::nextSeed);
    }

    // ---- BEST and RANKS

    private static void fourDark() {
        for (int first = 0; first < 12; first++) {
            for (int last = first; last < 12; last++) {
                int dark = last - first + 1;
                PlaySeason x = Due.withHouse("t00al1,t01al1");
                int want = dark <= 4 ? 12 - dark : PlaySeason.STATE;
                B.is("all dark, best(" + first + ", " + last + ", 0)", x.best(first, last, 0), want);
            }
        }
        // lit nights are none of the four
        String house = "t00al1,t01al1";
        B.is("none dark", Due.withPlan(house, "010101010101").best(0, 11, 2), 12);
        B.is("one dark", Due.withPlan(house, "0101.1010101").best(0, 11, 2), 12);
        B.is("four dark", Due.withPlan(house, ".1010..1010.").best(0, 11, 2), 12);
        B.is("five dark", Due.withPlan(house, ".1.10..1010.").best(0, 11, 2), PlaySeason.STATE);
        B.is("five dark, the first not there", Due.withPlan(house, ".1.10..1010.").best(1, 11, 2), 11);
        B.is("five dark, the last not there", Due.withPlan(house, ".1.10..1010.").best(0, 10, 2), 11);
    }

    private static void othersAsTheyAre() {
        // nights that break stay as they are, in the span and beside it
        becomes("t00al9,t11al9", "01.01.01.01.", 3, 7, "01.01.01.01.");
        becomes("t00al9,t11al9", "0.1.........", 0, 2, "0.1.........");
        becomes("t00al9,t11al9", "01..0.......", 0, 4, "011.0.......");
        // one span at each end
        becomes("t00al1,t01al1", "............", 0, 3, "0011........");
        becomes("t00al1,t01al1", "............", 8, 11, "........0011");
        // none may be best: what it would be breaks
        becomes("t00bl1", "............", 0, 0, "............");
        becomes("t00al1", "000.........", 3, 3, "000.........");
    }

    private static void becomes(String house, String plan, int first, int last, String want) {
        PlaySeason x = Due.withPlan(house, plan);
        PlaySeason due = Due.withPlan(house, want);
        String call = house + " " + plan + " best(" + first + ", " + last + ", ";
        B.is(call + "0)", x.best(first, last, 0), due.count(3));
        B.is(call + "1)", x.best(first, last, 1), due.count(4));
        B.is(call + "2)", x.best(first, last, 2), due.count(1));
        B.planIs(call + "2)", x, want);
    }

    /** The best of all ways, each put as a plan of its own and weighed by count(), the last way first. */
    private static String byHand(String house, String plan, int first, int last) {
        PlaySeason titles = Due.withHouse(house);
        String[] best = {null};
        int[] weight = new int[2];
        tryAll(house, plan, first, last, titles.count(0), best, weight);
        return best[0];
    }

    private static void tryAll(String house, String plan, int night, int last, int titles, String[] best, int[] weight) {
        if (night > last) {
            PlaySeason x = Due.withPlan(house, plan);
            int[] own = {x.count(3), -x.count(4)};
            int order = best[0] == null ? -1 : own[0] != weight[0] ? own[0] - weight[0] : own[1] - weight[1];
            if (order < 0 || order == 0 && plan.compareTo(best[0]) < 0) {
                best[0] = plan;
                System.arraycopy(own, 0, weight, 0, 2);
            }
            return;
        }
        if (plan.charAt(night) != '.') {
            tryAll(house, plan, night + 1, last, titles, best, weight);
            return;
        }
        for (int title = titles - 1; title >= -1; title--) {
            String filled = plan.substring(0, night) + (title < 0 ? "." : title) + plan.substring(night + 1);
            tryAll(house, filled, night + 1, last, titles, best, weight);
        }
    }

    private static void leastLost() {
        // fewer nights lost, though less is earned
        becomes("g00al9,t11al1", "1...........", 1, 1, "11..........");
        becomes("t00al1,g11al9", "0...0.......", 1, 3, "00.00.......");
        // of the whole plan: a farewell ahead of the span would break
        becomes("f00al5,t00al5", "0...........", 11, 11, "0...........");
        // of like ones what earns most, also by what it makes others earn
        becomes("t00al1,t01al2", "............", 5, 5, ".....1......");
        becomes("t00al9,d01al8", "0...........", 1, 1, "01..........");
        becomes("t00al9,t01al4", ".00.........", 0, 0, "100.........");
        // all ways there can be: five titles, four dark nights
        String[] houses = {"t00al9,g01al3,r00al4,d02al1,f04bl6", "g00al1,g01al2,g02al3,g03al4,g04al5",
            "d11al5,r11al5,t12al5,f13al5,g14al5", "t00dl9,t01el8,t02fl7,r00al1,r01al1"};
        String[] plans = {"............", "0..1..2..3..", "40....013...", "11.22.11.22."};
        int[][] spans = {{0, 3}, {8, 11}, {1, 5}, {2, 8}};
        for (String house : houses) {
            for (int i = 0; i < plans.length; i++) {
                becomes(house, plans[i], spans[i][0], spans[i][1], byHand(house, plans[i], spans[i][0], spans[i][1]));
            }
        }
    }

    private static void firstByNights() {
        // dark ahead of title 0
        becomes("t00bl1", "............", 0, 3, "..00........");
        becomes("r00al5", "............", 0, 2, ".00.........");
        // title 0 ahead of title 1, and so on
        becomes("t00al5,t00al5,t00al5,t00al5,t00al5", "............", 0, 0, "0...........");
        becomes("t00bl5,t00al5,t00al5,t00al5,t00al5", "............", 0, 0, "1...........");
        becomes("t00bl5,t00bl5,t00bl5,t00bl5,t00al5", "............", 0, 0, "4...........");
        // the first night in which two differ tells, not the last one
        becomes("t00al5,t01al5", "............", 0, 1, "01..........");
        becomes("t00al5,t01al5", "............", 10, 11, "..........01");
    }

    private static void ranked(String house, String plan, int... want) {
        PlaySeason x = Due.withPlan(house, plan);
        for (int place = 0; place < want.length; place++) {
            B.is(house + " " + plan + " rank(" + place + ")", x.rank(place), want[place]);
        }
    }

    private static void ranks() {
        String like = "t00al3,t01al3,t02al3,t03al3,t04al3";
        ranked(like, "............", 0, 1, 2, 3, 4);
        ranked(like, "4...........", 4, 0, 1, 2, 3);
        ranked(like, "01234.......", 0, 1, 2, 3, 4);
        ranked(like, "43210.......", 0, 1, 2, 3, 4);
        ranked(like, "433222111144", 1, 4, 2, 3, 0);
        // one night more is ahead of more seats; one seat more is ahead of the number
        ranked("g00al9,t01al1", "0.1.1.......", 1, 0);
        ranked("t00al1,t01al2", "0.1.........", 1, 0);
        ranked("t00al2,t01al1", "0.1.........", 0, 1);
        // a night that breaks is a night that it is on, but has no seats
        ranked("t00al1,t01aa9", "0.1.1.......", 1, 0);
        ranked("t00al1,t01aa9", "0.1.........", 0, 1);
        ranked("t00aa1,t01aa9", "..0.1.......", 0, 1);
        // fifty more by a draw tells, too
        ranked("t00al2,t01al2,d12al1", "0.12........", 1, 0, 2);
    }

    // ---- SEEN

    private static void sixSeen() {
        PlaySeason x = Due.withHouse("t00al1,t00al1,t00al1,t00al1,t00al1");
        for (int round = 0; round < 3; round++) {
            for (int many = 1; many <= 6; many++) {
                B.is("see, round " + round, x.see(round == 0 ? 0 : many % 5, 0, true), many);
            }
            for (int title = 0; title < 5; title++) {
                B.is("see, the seventh, round " + round, x.see(title, 1, false), PlaySeason.FULL);
            }
            B.is("count(6)", x.count(6), 6);
            B.is("title(0, 7), as ahead of the seventh", x.title(0, 7), 0b11001);
            B.is("forget()", x.forget(), 6);
        }
    }

    private static final String[] SO = {"10011", "11101", "01100", "00001"};

    /** Of each of the four things nothing is seen, or that it is so, or that it is not, or both. */
    private static void sorts() {
        for (int mix = 0; mix < 256; mix++) {
            PlaySeason x = Due.withHouse("f00al1,t00al1");
            int want = 31;
            int told = 0;
            for (int what = 0; what < 4; what++) {
                int of = mix >> 2 * what & 3;
                for (int so = 0; so < 2; so++) {
                    if ((of >> so & 1) == 1 && told < 6) {
                        x.see(1, what, so == 1);
                        told++;
                        want &= kindsOf(what, so == 1);
                    }
                }
            }
            B.is("mix " + mix + ": title(1, 7)", x.title(1, 7), want);
            B.is("mix " + mix + ": title(0, 7)", x.title(0, 7), 31);
        }
    }

    private static int kindsOf(int what, boolean so) {
        int kinds = 0;
        for (int kind = 0; kind < 5; kind++) {
            kinds |= SO[what].charAt(kind) == (so ? '1' : '0') ? 1 << kind : 0;
        }
        return kinds;
    }

    /** All sets of SORTS that can be left: what is seen (a what each, with its sign), the bits, what to ask. */
    private static void asks() {
        asked("", 0b11111, 0);
        asked("+0", 0b11001, 1);
        asked("-0", 0b00110, 0);
        asked("+1", 0b10111, 0);
        asked("-1", 0b01000, 0);
        asked("+3", 0b10000, 0);
        asked("-3", 0b01111, 0);
        asked("+0+1", 0b10001, 3);
        asked("+0-3", 0b01001, 1);
        asked("+1-3", 0b00111, 0);
        asked("+0+1-3", 0b00001, 0);
        asked("+0-0", 0, PlaySeason.NONE);
        asked("+3-1", 0, PlaySeason.NONE);
        asked("+3-3+2-2+1-1", 0, PlaySeason.NONE);
    }

    private static void asked(String seen, int sorts, int want) {
        PlaySeason x = Due.withHouse("t00al1");
        for (int i = 0; i < seen.length(); i += 2) {
            x.see(0, seen.charAt(i + 1) - '0', seen.charAt(i) == '+');
        }
        B.is("seen " + seen + ": title(0, 7)", x.title(0, 7), sorts);
        B.is("seen " + seen + ": title(0, 8)", x.title(0, 8), want);
    }

    // ---- DRAWN

    /** The seed from which so many draws lead to this one. */
    private static int seedAhead(BigInteger then, int draws) {
        BigInteger seed = then;
        for (int draw = 0; draw < draws; draw++) {
            seed = seed.subtract(AND).multiply(TIMES.modInverse(TWO_TO_31)).mod(TWO_TO_31);
        }
        return seed.intValueExact();
    }

    private static void asTheyWouldBe() {
        PlaySeason x = Bounds.busy();
        for (int what = 0; what < 3; what++) {
            for (int times : new int[] {1, 20}) {
                x.drawn(times, Integer.MAX_VALUE, what);
            }
        }
        B.is("drawn, digest()", x.digest(), Bounds.busy().digest());
        B.is("drawn, restore()", x.restore(), 3);
        PlaySeason restored = Bounds.busy();
        restored.restore();
        B.alike("drawn, restored", x, restored);
    }

    private static void oneMoreThanTitles() {
        String five = "t00al9,g01al3,r00al4,d02al1,f04bl6";
        for (int titles = 1; titles <= 5; titles++) {
            String house = five.substring(0, 7 * titles - 1);
            for (int seed : new int[] {0, 1, 2, 65535, 65536, Integer.MAX_VALUE - 1, Integer.MAX_VALUE}) {
                for (int times : new int[] {1, 2, 19, 20}) {
                    B.drawnIs(house, seed, times);
                }
            }
        }
    }

    private static void nextSeed() {
        PlaySeason x = Due.withHouse("t00al1");
        for (int times : new int[] {1, 2, 20}) {
            for (int then : new int[] {0, 1, 65535, 65536, Integer.MAX_VALUE - 1, Integer.MAX_VALUE}) {
                int seed = seedAhead(BigInteger.valueOf(then), 12 * times);
                B.is("drawn(" + times + ", " + seed + ", 2)", x.drawn(times, seed, 2), then);
            }
        }
        // the rest is 0 at each night of one plan: on its first draw, and on its last one
        for (int draw = 1; draw <= 12; draw++) {
            B.drawnIs("t00al9,d01al1", seedAhead(BigInteger.ZERO, draw), 1);
            B.drawnIs("t00al9,d01al1", seedAhead(BigInteger.valueOf(Integer.MAX_VALUE), draw), 1);
            B.drawnIs("t00al9,d01al1", seedAhead(BigInteger.valueOf(65535), draw), 1);
            B.drawnIs("t00al9,d01al1", seedAhead(BigInteger.valueOf(65536), draw), 1);
        }
    }

    // ---- IMAGE

    private static void keeps() {
        PlaySeason x = Due.withPlan("t12bk3,g34al9", "01.01.01.01.");
        x.see(0, 0, true);
        x.see(1, 2, false);
        Due.type(x, "ab");
        x.image();
        long ahead = x.digest();
        changedAndBack(x, ahead, "be", y -> y.be(0, 4));
        changedAndBack(x, ahead, "rights", y -> y.rights(1, 3, 3));
        changedAndBack(x, ahead, "add", y -> y.add(0, 0, 0));
        changedAndBack(x, ahead, "play", y -> y.play(11, 1));
        changedAndBack(x, ahead, "play, dark", y -> y.play(0, PlaySeason.NONE));
        changedAndBack(x, ahead, "delay", y -> y.delay(11));
        changedAndBack(x, ahead, "see", y -> y.see(0, 1, false));
        changedAndBack(x, ahead, "forget", y -> y.forget());
        changedAndBack(x, ahead, "forget, and other things seen", y -> y.forget() + y.see(0, 3, true) + y.see(0, 3, false));
        changedAndBack(x, ahead, "forget, and another title seen", y -> y.forget() + y.see(1, 3, true) + y.see(0, 1, false));
        // THE PAGE is not kept, nor is how often best() was told
        x.letter('c');
        x.restore();
        B.is("letter, restore(): count(7)", x.count(7), 3);
        x.blank();
        x.restore();
        B.is("blank, restore(): count(7)", x.count(7), 0);
        x.best(0, 0, 0);
        x.restore();
        B.is("best, restore(): count(9)", x.count(9), 1);
        B.is("restore(): count(8)", x.count(8), 1);
    }

    private static void changedAndBack(PlaySeason x, long ahead, String name, Bounds.Call change) {
        change.on(x);
        B.so(name + " changes something", x.digest() != ahead);
        B.is(name + ", restore()", x.restore(), 2);
        B.is(name + ", restore(), digest()", x.digest(), ahead);
    }
}
