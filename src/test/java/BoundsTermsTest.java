/** Boundary cases of what a HOUSE, a TITLE and a PLAN are, by which a PLAN BREAKS, SEATS, EARNED and LOST. */
public final class BoundsTermsTest {
    private static final Bounds B = new Bounds();

    public static void main(String[] args) {
        houses();
        breaks();
        seats();
        B.end();
    }

    private static void houses() {
        B.sentence("what.1", "A TITLE has a KIND, a SET (0 to 4), a CAST (0 to 4), a FIRST and a LAST night (rights; 0 to 11),"
            + " a FILL (1 to 9).", BoundsTermsTest::numbersOfTitle);
        B.sentence("what.2", "An object is used for at most 512 calls after it has been made", BoundsTermsTest::calls);
        B.sentence("terms.1", "one to five TITLES (numbered from 0) with \",\" between", BoundsTermsTest::howManyTitles);
        B.sentence("terms.35", "At first there is none.", BoundsTermsTest::noHouseAtFirst);
        B.sentence("terms.2", "a letter \"a\" to \"l\" (LAST, not ahead of FIRST)", BoundsTermsTest::lastNotAheadOfFirst);
        B.sentence("terms.3", "KINDS are told by the letter: 0 TITLE \"t\", 1 GALA \"g\", 2 FAREWELL \"f\", 3 ROW \"r\","
            + " 4 DRAW \"d\".", BoundsTermsTest::kindLetters);
        B.sentence("terms.4", "All are TITLES; a FAREWELL is a GALA, too.", BoundsTermsTest::kindsOfKinds);
        B.sentence("terms.5", "A PLAN has 12 NIGHTS, each a TITLE or none (dark).", BoundsTermsTest::twelveNights);
        B.sentence("terms.6", "At first (and when a HOUSE is read) all are dark.", BoundsTermsTest::darkAtFirst);
    }

    private static void breaks() {
        B.sentence("terms.7", "A PLAN BREAKS at a NIGHT that has a TITLE by the first of these that is so",
            BoundsTermsTest::firstThatIsSo);
        B.sentence("terms.8", "1 RIGHTS: the NIGHT is ahead of FIRST, or behind LAST", BoundsTermsTest::rights);
        B.sentence("terms.9", "2 SETS: the NIGHT right ahead of it has a TITLE of another SET (where there is a dark NIGHT"
            + " between, sets can be changed)", BoundsTermsTest::sets);
        B.sentence("terms.10", "3 REST: its CAST was on at both NIGHTS right ahead of it", BoundsTermsTest::rest);
        B.sentence("terms.11", "4 ONCE: it is a GALA (also a FAREWELL) and was on at a NIGHT ahead", BoundsTermsTest::once);
        B.sentence("terms.12", "5 BEHIND: it is a FAREWELL, and a TITLE of its CAST is on at a NIGHT behind it",
            BoundsTermsTest::behind);
        B.sentence("terms.13", "6 ALONE: it is a ROW, and on neither at the NIGHT right ahead of it nor at that right behind it.",
            BoundsTermsTest::alone);
    }

    private static void seats() {
        B.sentence("terms.14", "SEATS of a NIGHT that has a TITLE: 100 times its FILL", BoundsTermsTest::fills);
        B.sentence("terms.15", "once for each NIGHT ahead at which it was on, but three times at most, 70 times that by 100,"
            + " rounded down", BoundsTermsTest::fades);
        B.sentence("terms.16", "of a GALA 3 times that by 2, rounded down", BoundsTermsTest::galas);
        B.sentence("terms.17", "and 50 more, if the TITLE of the NIGHT right ahead, or right behind, is another one that is a"
            + " DRAW.", BoundsTermsTest::draws);
        B.sentence("terms.18", "EARNED is all SEATS together of NIGHTS at which the PLAN does not BREAK.",
            BoundsTermsTest::earned);
        B.sentence("terms.19", "LOST is how many NIGHTS are dark or BREAK.", BoundsTermsTest::lost);
    }

    // ---- houses

    /** Every letter that there is, at one place of a text: which ones a house has there, and what title() tells then. */
    private static void letterAt(String ahead, String behind, String taken, int what, int least) {
        for (int code = 32; code <= 126; code++) {
            PlaySeason x = new PlaySeason();
            String text = ahead + (char) code + behind;
            Due.type(x, text);
            int number = taken.indexOf((char) code);
            B.is("fault() of " + text, x.fault(), number < 0 ? ahead.length() : text.length());
            B.is("house() of " + text, x.house(), number < 0 ? PlaySeason.STATE : 1);
            B.is("title(0, " + what + ") of " + text, x.title(0, what), number < 0 ? PlaySeason.UNKNOWN : least + number);
        }
    }

    private static void numbersOfTitle() {
        letterAt("t", "2fg5", "01234", 1, 0);
        letterAt("t2", "fg5", "01234", 2, 0);
        letterAt("t22", "l5", "abcdefghijkl", 3, 0);
        letterAt("t22a", "5", "abcdefghijkl", 4, 0);
        letterAt("t22al", "", "123456789", 5, 1);
    }

    private static void kindLetters() {
        letterAt("", "00al1", "tgfrd", 0, 0);
    }

    private static void calls() {
        PlaySeason x = new PlaySeason();
        for (int house = 1; house <= 73; house++) {
            Due.type(x, "t00al1");
            B.is("house(), call " + 7 * house, x.house(), 1);
        }
        B.is("count(8), call 512", x.count(8), 73);
        PlaySeason y = Due.withHouse("t00al9,d01al8");
        int drawn = y.drawn(20, 5, 1);
        for (int call = 16; call < 512; call++) {
            B.is("drawn(20, 5, 1), call " + call, y.drawn(20, 5, 1), drawn);
        }
        B.is("count(0), call 512", y.count(0), 2);
        PlaySeason z = new PlaySeason();
        for (int call = 1; call <= 512; call++) {
            B.is("letter(32), call " + call, z.letter(32), call <= 40 ? call : PlaySeason.FULL);
        }
    }

    private static void houseOrNot(String text, int want) {
        PlaySeason x = new PlaySeason();
        Due.type(x, text);
        B.is("house() of '" + text + "'", x.house(), want);
        for (int title = 0; title < Math.max(want, 0); title++) {
            B.is("title(" + title + ", 5) of " + text, x.title(title, 5), title + 1);
        }
        B.is("title(-1, 5) of '" + text + "'", x.title(-1, 5), PlaySeason.UNKNOWN);
        B.is("title behind the last one of '" + text + "'", x.title(Math.max(want, 0), 5), PlaySeason.UNKNOWN);
    }

    private static void howManyTitles() {
        houseOrNot("", PlaySeason.STATE);
        houseOrNot("t00al1", 1);
        houseOrNot("t00al1,t00al2", 2);
        houseOrNot("t00al1,t00al2,t00al3", 3);
        houseOrNot("t00al1,t00al2,t00al3,t00al4", 4);
        houseOrNot("t00al1,t00al2,t00al3,t00al4,t00al5", 5);
        houseOrNot("t00al1,t00al2,t00al3,t00al4,t00al5,t00al", PlaySeason.STATE);
        houseOrNot("t00al1,t00al2,t00al3,t00al4,t00al5,", PlaySeason.STATE);
        houseOrNot("t00al", PlaySeason.STATE);
        houseOrNot("t00al1,t00al", PlaySeason.STATE);
        houseOrNot(",", PlaySeason.STATE);
        houseOrNot(",t00al1", PlaySeason.STATE);
        houseOrNot("t00al1,", PlaySeason.STATE);
        houseOrNot("t00al1,,t00al2", PlaySeason.STATE);
        houseOrNot("t00al1t00al2", PlaySeason.STATE);
        houseOrNot("t00al1;t00al2", PlaySeason.STATE);
        houseOrNot("t00al1, t00al2", PlaySeason.STATE);
    }

    /** Nor is there one by letters alone, nor by a page that is none. */
    private static void noHouseAtFirst() {
        PlaySeason x = new PlaySeason();
        B.is("new: count(0)", x.count(0), 0);
        Due.type(x, "t00al1");
        B.is("letters: count(0)", x.count(0), 0);
        B.is("letters: title(0, 0)", x.title(0, 0), PlaySeason.UNKNOWN);
        B.is("letters: night(0, 0)", x.night(0, 0), PlaySeason.UNKNOWN);
        x.letter(',');
        B.is("house() of a part", x.house(), PlaySeason.STATE);
        B.is("house() of a part: count(0)", x.count(0), 0);
        B.is("house() of a part: add(0, 0, 0)", x.add(0, 0, 0), PlaySeason.STATE);
        B.is("house() of a part: count(8)", x.count(8), 0);
    }

    private static void lastNotAheadOfFirst() {
        for (char first = 'a'; first <= 'l'; first++) {
            for (char last = 'a'; last <= 'l'; last++) {
                PlaySeason x = new PlaySeason();
                String text = "g34" + first + last + "7";
                Due.type(x, text);
                B.is("fault() of " + text, x.fault(), last < first ? 4 : 6);
                B.is("house() of " + text, x.house(), last < first ? PlaySeason.STATE : 1);
                B.is("title(0, 3) of " + text, x.title(0, 3), last < first ? PlaySeason.UNKNOWN : first - 'a');
                B.is("title(0, 4) of " + text, x.title(0, 4), last < first ? PlaySeason.UNKNOWN : last - 'a');
            }
        }
        houseOrNot("t00ll1,t00aa2", 2);
        houseOrNot("t00aa1,t00lk2", PlaySeason.STATE);
    }

    private static void kindsOfKinds() {
        PlaySeason x = Due.withHouse("t00al1,g00al1,f00al1,r00al1,d00al1");
        String[] isSo = {"10000", "11000", "11100", "10010", "10001"};
        for (int title = 0; title < 5; title++) {
            for (int kind = 0; kind < 5; kind++) {
                boolean is = isSo[title].charAt(kind) == '1';
                B.is("as(" + title + ", " + kind + ")", x.as(title, kind), is ? title : PlaySeason.NONE);
            }
        }
    }

    private static void twelveNights() {
        PlaySeason x = Due.withHouse("t00al1");
        B.is("night(-1, 0)", x.night(-1, 0), PlaySeason.UNKNOWN);
        B.is("night(12, 0)", x.night(12, 0), PlaySeason.UNKNOWN);
        for (int night = 0; night < 12; night++) {
            B.is("night(" + night + ", 0)", x.night(night, 0), PlaySeason.NONE);
            x.play(night, 0);
            B.is("night(" + night + ", 0), played", x.night(night, 0), 0);
            B.is("count(1)", x.count(1), night + 1);
            B.is("count(3) and count(2)", x.count(3) - x.count(2), 11 - night);
        }
    }

    private static void darkAtFirst() {
        PlaySeason x = Due.withHouse("t00al1,t00al1");
        B.planIs("at first", x, "............");
        Due.replan(x, "010101010101");
        B.planIs("all filled", x, "010101010101");
        Due.type(x, "t00al1,t00al1");
        x.house();
        B.planIs("a HOUSE is read", x, "............");
        B.is("count(1)", x.count(1), 0);
        B.is("count(3)", x.count(3), 12);
        B.is("title(0, 6)", x.title(0, 6), 0);
        B.is("title(1, 6)", x.title(1, 6), 0);
    }

    // ---- by which a PLAN BREAKS

    /** Each plan has a night where two of the six are so. */
    private static void firstThatIsSo() {
        B.breaks("t00al1,t11cl1", "01..........", "010000000000");
        B.breaks("t00ab1", "000.........", "001000000000");
        B.breaks("g00ab1", "0.0.........", "001000000000");
        B.breaks("f00bl1", "0.0.........", "104000000000");
        B.breaks("r00bl1", "0...........", "100000000000");
        B.breaks("t00al1,t10al1", "001.........", "002000000000");
        B.breaks("t00al1,g11al1", "1.01........", "000200000000");
        B.breaks("t00al1,f11al1,t11al1", "01.2........", "020000000000");
        B.breaks("t00al1,r11al1", "01..........", "020000000000");
        B.breaks("g00al1", "000.........", "043000000000");
        B.breaks("t00al1,f00al1", "001.0.......", "003000000000");
        B.breaks("t00al1,r00al1", "001.........", "003000000000");
        B.breaks("f00al1", "0.0.0.......", "504040000000");
        // all that a farewell and all that a row can break by at once
        B.breaks("f00bb1,t10al1", "110.0.......", "001010000000");
        B.breaks("r00bb1,t10al1", "110.........", "001000000000");
        // a dark night breaks by none
        B.breaks("f00bb1", "............", "000000000000");
    }

    private static void rights() {
        for (int first = 0; first < 12; first++) {
            for (int last = first; last < 12; last++) {
                String house = "t00" + (char) ('a' + first) + (char) ('a' + last) + "1";
                for (int night = 0; night < 12; night++) {
                    boolean broken = night < first || night > last;
                    B.breaks(house, Bounds.plan(night, 0), Bounds.digits(night, broken ? 1 : 0));
                }
            }
        }
    }

    private static void sets() {
        String house = "t00al1,t11al1,t02al1";
        for (int night = 0; night < 12; night++) {
            boolean hasAhead = night >= 1;
            B.breaks(house, Bounds.plan(night - 1, 0, night, 1), Bounds.digits(night, hasAhead ? 2 : 0));
            B.breaks(house, Bounds.plan(night - 1, 0, night, 2), Bounds.digits());
            B.breaks(house, Bounds.plan(night - 2, 0, night, 1), Bounds.digits());
        }
        for (int set = 0; set < 5; set++) {
            for (int other = 0; other < 5; other++) {
                String two = "t" + set + "0al1,t" + other + "1al1";
                B.breaks(two, "01..........", set == other ? "000000000000" : "020000000000");
            }
        }
        // the last night is not ahead of the first one
        B.breaks(house, "1..........0", "000000000000");
        // the night ahead counts, though it breaks itself
        B.breaks("t00bl1,t11al1", "01..........", "120000000000");
    }

    private static void rest() {
        String house = "t00al1,t01al1,t00al1";
        for (int night = 0; night < 12; night++) {
            int by = night >= 2 ? 3 : 0;
            B.breaks(house, Bounds.plan(night - 2, 0, night - 1, 0, night, 0), Bounds.digits(night, by));
            B.breaks(house, Bounds.plan(night - 2, 0, night - 1, 2, night, 0), Bounds.digits(night, by));
            B.breaks(house, Bounds.plan(night - 2, 2, night - 1, 2, night, 0), Bounds.digits(night, by));
            B.breaks(house, Bounds.plan(night - 1, 0, night, 0), Bounds.digits());
            B.breaks(house, Bounds.plan(night - 2, 0, night, 0), Bounds.digits());
            B.breaks(house, Bounds.plan(night - 2, 0, night - 1, 1, night, 0), Bounds.digits());
            B.breaks(house, Bounds.plan(night - 2, 1, night - 1, 0, night, 0), Bounds.digits());
            B.breaks(house, Bounds.plan(night - 3, 0, night - 2, 0, night, 0), Bounds.digits());
        }
        // the last nights are not ahead of the first ones
        B.breaks(house, "00........00", "000000000000");
        // nights that break are nights at which the cast was on
        B.breaks(house, "000000000000", "003333333333");
        for (int cast = 0; cast < 5; cast++) {
            B.breaks("t0" + cast + "al1", "000.00......", "003000000000");
        }
    }

    private static void once() {
        for (int ahead = 0; ahead < 12; ahead++) {
            for (int night = ahead + 1; night < 12; night++) {
                String twice = Bounds.plan(ahead, 0, night, 0);
                String both = Bounds.plan(ahead, 0, night, 1);
                B.breaks("g00al1,g00al1", twice, Bounds.digits(night, 4));
                B.breaks("f00al1,g00al1", twice, Bounds.digits(ahead, 5, night, 4));
                B.breaks("t00al1,g00al1", twice, Bounds.digits());
                B.breaks("d00al1,g00al1", twice, Bounds.digits());
                B.breaks("g00al1,g00al1", both, Bounds.digits());
            }
        }
        B.breaks("g00al1", "0.0.0......0", "004040000004");
        // it was on, though that night breaks
        B.breaks("g00bl1", "0.0.........", "104000000000");
    }

    private static void behind() {
        for (int night = 0; night < 12; night++) {
            B.breaks("f00al1", Bounds.plan(night, 0), Bounds.digits());
            for (int other = 0; other < 12; other++) {
                if (other != night) {
                    String plan = Bounds.plan(night, 0, other, 1);
                    B.breaks("f00al1,t00al1", plan, Bounds.digits(night, other > night ? 5 : 0));
                    B.breaks("f00al1,t01al1", plan, Bounds.digits());
                    B.breaks("g00al1,t00al1", plan, Bounds.digits());
                }
            }
        }
        // it is on behind, though that night breaks
        B.breaks("f00al1,t00aa1", "0..........1", "500000000001");
    }

    private static void alone() {
        for (int night = 0; night < 12; night++) {
            String house = "r00al1,r00al1";
            B.breaks(house, Bounds.plan(night, 0), Bounds.digits(night, 6));
            if (night >= 1) {
                B.breaks(house, Bounds.plan(night - 1, 0, night, 0), Bounds.digits());
                B.breaks(house, Bounds.plan(night - 1, 1, night, 0), Bounds.digits(night - 1, 6, night, 6));
                B.breaks("t00al1,d00al1", Bounds.plan(night, 0), Bounds.digits());
            }
            if (night >= 2) {
                B.breaks(house, Bounds.plan(night - 2, 0, night, 0), Bounds.digits(night - 2, 6, night, 6));
                B.breaks("r00al1", Bounds.plan(night - 2, 0, night - 1, 0, night, 0), Bounds.digits(night, 3));
            }
        }
        // the last night is not beside the first one
        B.breaks("r00al1", "0..........0", "600000000006");
        // it is on beside it, though that night breaks
        B.breaks("r00bl1", "00..........", "100000000000");
    }

    // ---- SEATS, EARNED, LOST

    private static void fills() {
        for (int fill = 1; fill <= 9; fill++) {
            for (String kind : new String[] {"t", "r", "d"}) {
                for (int night = 0; night < 12; night++) {
                    int[] want = new int[12];
                    want[night] = 100 * fill;
                    B.seats(kind + "00al" + fill, Bounds.plan(night, 0), want);
                }
            }
        }
        // also of a night that breaks
        B.seats("t00bl9", "0...........", 900);
    }

    private static void fades() {
        int[] thrice = {34, 68, 102, 137, 171, 205, 240, 274, 308};
        for (int fill = 1; fill <= 9; fill++) {
            int least = thrice[fill - 1];
            String house = "t00al" + fill;
            B.seats(house, "000000000000", 100 * fill, 70 * fill, 49 * fill, least, least, least, least, least, least, least,
                least, least);
            B.seats(house, "0..0....0..0", 100 * fill, 0, 0, 70 * fill, 0, 0, 0, 0, 49 * fill, 0, 0, least);
        }
        // other titles make it no less, of the same text neither
        B.seats("t00al1,t00al1", "0.1.0.1.....", 100, 0, 100, 0, 70, 0, 70);
        // nights behind make it no less; nights ahead that break do
        B.seats("t00bl5", "0.0.........", 500, 0, 350);
    }

    private static void galas() {
        for (String kind : new String[] {"g", "f"}) {
            B.seats(kind + "00al1", "0.0.0.0.0.0.", 150, 0, 105, 0, 73, 0, 51, 0, 51, 0, 51);
            B.seats(kind + "00al3", "0.0.0.0.....", 450, 0, 315, 0, 220, 0, 153);
            B.seats(kind + "00al7", "0.0.0.0.....", 1050, 0, 735, 0, 514, 0, 360);
            B.seats(kind + "00al9", "0.0.0.0.....", 1350, 0, 945, 0, 661, 0, 462);
        }
    }

    private static void draws() {
        for (int night = 0; night < 12; night++) {
            for (int draw = 0; draw < 12; draw++) {
                if (draw != night) {
                    int[] want = new int[12];
                    want[night] = 300 + (Math.abs(night - draw) == 1 ? 50 : 0);
                    want[draw] = 200;
                    B.seats("t00al3,d11al2", Bounds.plan(night, 0, draw, 1), want);
                }
            }
        }
        String house = "t00al3,d11al2,d11al1,g12al1,f13al1";
        B.seats(house, "101.010.....", 200, 350, 140, 0, 260, 98, 197);
        // a draw on both sides is no more than one
        B.seats(house, "102.........", 200, 350, 100);
        // not by itself, but by another draw
        B.seats(house, "11..........", 200, 140);
        B.seats(house, "12..........", 250, 150);
        // behind the gala's half more
        B.seats(house, "31..........", 200, 200);
        B.seats(house, ".41.........", 0, 200, 200);
        // a draw draws, though its night breaks
        B.seats("t00al3,d11bl2", "10..........", 200, 350);
        // no other kind draws
        for (String kind : new String[] {"t", "g", "f", "r"}) {
            PlaySeason x = Due.withPlan(kind + "00al3,t00al2", "01..........");
            B.is("a title beside the kind " + kind, x.night(1, 2), 200);
        }
    }

    private static void earns(String house, String plan, int want) {
        B.is(house + " " + plan + " count(4)", Due.withPlan(house, plan).count(4), want);
    }

    private static void earned() {
        earns("t00al9", "............", 0);
        earns("t00al9", "0...........", 900);
        earns("t00al9", "...........0", 900);
        earns("t00al9", "0..........0", 900 + 630);
        // by each of the six one night less
        earns("t00bl9", "0.0.........", 630);
        earns("t00al9,t11al2", "01..........", 900);
        earns("t00al9", "000.........", 900 + 630);
        earns("g00al2", "0.0.........", 300);
        earns("f00al2,t00al9", "0.1.........", 900);
        earns("r00al2,t00al9", "0.1.........", 900);
        // all break
        earns("t00ll9", "000000000000", 0);
        // none breaks, all are lit
        earns("d00al1,d01al1", "010101010101", 2 * (100 + 70 + 49 + 34 * 3) + 12 * 50);
    }

    private static void loses(String house, String plan, int want) {
        PlaySeason x = Due.withPlan(house, plan);
        B.is(house + " " + plan + " count(3)", x.count(3), want);
        B.is(house + " " + plan + " best(0, 0, 0), the plan as it is", x.night(0, 0) < 0 ? want : x.best(0, 0, 0), want);
    }

    private static void lost() {
        loses("t00al9", "............", 12);
        loses("t00al9", "0...........", 11);
        loses("t00al9", "...........0", 11);
        loses("t00al9,t01al9", "010101010101", 0);
        loses("t00al9,t01al9", "01010101010.", 1);
        loses("t00al9,t01bl9", "110101010101", 1);
        loses("t00ll9", "000000000000", 12);
        loses("t00bl9", "0...........", 12);
        loses("t00bl9", "0.0.........", 11);
    }
}
