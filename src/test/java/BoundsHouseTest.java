/** Boundary cases of promises 1 to 9: a new object, letter, blank, fault, house, plan, title, as, night. */
public final class BoundsHouseTest {
    private static final Bounds B = new Bounds();
    private static final String FIVE = "t00aa1,g11bk3,f24cj5,r32el7,d44ll9";
    private static final String FORTY = FIVE + ",t00al";
    private static final String[] TAKEN = {"tgfrd", "01234", "01234", "abcdefghijkl", "abcdefghijkl", "123456789", ","};

    public static void main(String[] args) {
        page();
        reading();
        telling();
        B.end();
    }

    private static void page() {
        B.sentence("1.1", "No HOUSE.", BoundsHouseTest::noHouse);
        B.sentence("2.1", "A letter comes behind THE PAGE, told by its code: how many THE PAGE has.", BoundsHouseTest::letters);
        B.sentence("2.2", "OUTSIDE: code (32 to 126)", BoundsHouseTest::codes);
        B.sentence("2.3", "FULL: above 40.", BoundsHouseTest::forty);
        B.sentence("3.1", "THE PAGE is empty: how many letters it had.", BoundsHouseTest::blanks);
        B.sentence("4.1", "The place (from 0) of the first letter of THE PAGE that no HOUSE has there, behind those ahead of it",
            BoundsHouseTest::firstFault);
        B.sentence("4.2", "how many letters it has, if there is none.", BoundsHouseTest::noFault);
    }

    private static void reading() {
        B.sentence("5.1", "THE PAGE is read as THE HOUSE (another one is gone, with all that was)", BoundsHouseTest::gone);
        B.sentence("5.2", "how many TITLES; THE PAGE is empty then. STATE: it is none.", BoundsHouseTest::houses);
        B.sentence("6.1", "twelve letters, each \".\" (dark) or the digit of a TITLE that there is", BoundsHouseTest::planLetters);
        B.sentence("6.2", "how many NIGHTS have a TITLE; THE PAGE is empty then.", BoundsHouseTest::plans);
        B.sentence("6.3", "STATE: it is none, or there is no HOUSE.", BoundsHouseTest::noPlan);
    }

    private static void telling() {
        B.sentence("7.1", "what = 0 KIND, 1 SET, 2 CAST, 3 FIRST, 4 LAST, 5 FILL, 6 how many NIGHTS it is on, 7 SORTS, as bits, 8"
            + " ASK (NONE).", BoundsHouseTest::titles);
        B.sentence("7.2", "8 ASK (NONE). UNKNOWN; OUTSIDE.", BoundsHouseTest::noTitle);
        B.sentence("8.1", "A TITLE taken as a KIND: its number; NONE: it is none such (the cast fails).", BoundsHouseTest::taken);
        B.sentence("8.2", "(the cast fails). UNKNOWN; OUTSIDE.", BoundsHouseTest::notTaken);
        B.sentence("9.1", "what = 0 its TITLE (NONE), 1 by which it BREAKS (1 to 6; 0: it does not), 2 SEATS (0: dark).",
            BoundsHouseTest::nights);
        B.sentence("9.2", "2 SEATS (0: dark). UNKNOWN: night (0 to 11), or there is no HOUSE; OUTSIDE.", BoundsHouseTest::noNight);
    }

    // ---- promises 1 to 4

    private static void noHouse() {
        PlaySeason x = new PlaySeason();
        for (int what = 0; what < 10; what++) {
            B.is("count(" + what + ")", x.count(what), what == 3 ? 12 : 0);
        }
        B.is("title(0, 0)", x.title(0, 0), PlaySeason.UNKNOWN);
        B.is("night(0, 0)", x.night(0, 0), PlaySeason.UNKNOWN);
        B.is("rank(0)", x.rank(0), PlaySeason.UNKNOWN);
        B.is("delay(1)", x.delay(1), PlaySeason.STATE);
        B.is("image()", x.image(), PlaySeason.STATE);
        B.is("restore()", x.restore(), PlaySeason.STATE);
        B.is("fault()", x.fault(), 0);
        B.is("blank()", x.blank(), 0);
        B.is("forget()", x.forget(), 0);
    }

    private static void letters() {
        PlaySeason x = new PlaySeason();
        for (int many = 1; many <= 40; many++) {
            B.is("letter, " + many, x.letter(FORTY.charAt(many - 1)), many);
            B.is("count(7), " + many, x.count(7), many);
        }
        // behind all others: only so is it this house
        PlaySeason y = new PlaySeason();
        for (int i = 0; i < FIVE.length(); i++) {
            y.letter(FIVE.charAt(i));
        }
        B.is("house()", y.house(), 5);
        B.is("title(0, 5)", y.title(0, 5), 1);
        B.is("title(4, 5)", y.title(4, 5), 9);
    }

    private static void codes() {
        for (int code = -300; code <= 400; code++) {
            int want = code >= 32 && code <= 126 ? 1 : PlaySeason.OUTSIDE;
            B.is("letter(" + code + ")", new PlaySeason().letter(code), want);
        }
        for (int wild : Bounds.outside(32, 126)) {
            B.refused("letter(" + wild + ")", PlaySeason.OUTSIDE, Bounds.SCENES, x -> x.letter(wild));
        }
        // the codes themselves are kept: the digest tells them, ahead of ten more numbers
        PlaySeason x = new PlaySeason();
        x.letter(32);
        PlaySeason y = new PlaySeason();
        y.letter(126);
        long timesTen = (long) Math.pow(31, 10);
        B.is("digest() of code 126, less that of code 32", y.digest() - x.digest(), (126 - 32) * timesTen);
    }

    private static void forty() {
        PlaySeason x = new PlaySeason();
        Due.type(x, FORTY.substring(0, 39));
        B.is("the 40th letter", x.letter(126), 40);
        B.is("the 41st letter", x.letter(126), PlaySeason.FULL);
        B.is("the 41st letter again", x.letter(32), PlaySeason.FULL);
        B.is("count(7)", x.count(7), 40);
        for (int code = 32; code <= 126; code++) {
            int own = code;
            B.refused("letter(" + code + "), the 41st", PlaySeason.FULL, Bounds::full, y -> y.letter(own));
        }
        B.is("blank()", x.blank(), 40);
        B.is("letter behind that", x.letter(126), 1);
    }

    private static void blanks() {
        for (int many : new int[] {0, 1, 6, 12, 34, 39, 40}) {
            PlaySeason x = new PlaySeason();
            Due.type(x, FORTY.substring(0, many));
            B.is("blank() of " + many, x.blank(), many);
            B.is("count(7) of " + many, x.count(7), 0);
            B.is("blank() again", x.blank(), 0);
            B.is("house() of none", x.house(), PlaySeason.STATE);
            Due.type(x, "t00al1");
            B.is("house() behind that", x.house(), 1);
        }
        // nothing but THE PAGE
        PlaySeason x = Bounds.busy();
        B.is("blank()", x.blank(), 7);
        Due.type(x, "t00al1,");
        B.alike("blank() and the letters again", x, Bounds.busy());
    }

    private static void firstFault() {
        for (int place = 0; place < 40; place++) {
            for (int code = 32; code <= 126; code++) {
                String text = FORTY.substring(0, place) + (char) code;
                boolean fits = place < 34 && TAKEN[place % 7].indexOf((char) code) >= 0;
                if (place % 7 == 4 && code < FORTY.charAt(place - 1)) {
                    fits = false;
                }
                PlaySeason x = new PlaySeason();
                Due.type(x, text);
                B.is("fault() of " + text, x.fault(), fits ? place + 1 : Math.min(place, 34));
                B.is("count(7) of " + text, x.count(7), place + 1);
            }
        }
        // of several the first one, and it does not matter what comes behind it
        fault("x50ma0", 0);
        fault("t50ma0", 1);
        fault("t00ba0x", 4);
        fault("t00al1,t00al1,t00al0,x", 19);
        fault("t00al1 t00al1", 6);
        fault(" ".repeat(40), 0);
        fault(FIVE + ",", 34);
        fault(FIVE + "t", 34);
        fault(FORTY, 34);
    }

    private static void fault(String text, int want) {
        PlaySeason x = new PlaySeason();
        Due.type(x, text);
        B.is("fault() of '" + text + "'", x.fault(), want);
        B.is("fault() of '" + text + "' again", x.fault(), want);
    }

    private static void noFault() {
        for (int many = 0; many <= 34; many++) {
            fault(FIVE.substring(0, many), many);
        }
    }

    // ---- promises 5 and 6

    private static void gone() {
        PlaySeason x = Bounds.full();
        x.blank();
        Due.type(x, "r34fg8");
        B.is("house()", x.house(), 1);
        int[] title = {3, 3, 4, 5, 6, 8, 0, 31, 0};
        for (int what = 0; what < title.length; what++) {
            B.is("title(0, " + what + ")", x.title(0, what), title[what]);
        }
        B.is("title(1, 0)", x.title(1, 0), PlaySeason.UNKNOWN);
        B.planIs("house()", x, "............");
        int[] counts = {1, 0, 0, 12, 0, 0, 0, 0, 2, 8};
        for (int what = 0; what < counts.length; what++) {
            B.is("count(" + what + ")", x.count(what), counts[what]);
        }
        B.is("rank(1)", x.rank(1), PlaySeason.UNKNOWN);
        B.is("restore()", x.restore(), PlaySeason.STATE);
        // what was seen of title 1 is not seen of another title 1
        B.is("add(0, 0, 0)", x.add(0, 0, 0), 1);
        B.is("title(1, 7)", x.title(1, 7), 31);
        B.is("title(1, 5)", x.title(1, 5), 5);
        B.is("see(0, 0, true)", x.see(0, 0, true), 1);
    }

    private static void houses() {
        for (int many = 0; many <= 40; many++) {
            String text = FORTY.substring(0, many);
            int titles = many % 7 == 6 && many <= 34 ? (many + 1) / 7 : PlaySeason.STATE;
            if (titles < 0) {
                B.refused("house() of '" + text + "'", titles, () -> typed(new PlaySeason(), text), PlaySeason::house);
                B.refused("house() of '" + text + "'", titles, () -> typed(Bounds.busy(), text), PlaySeason::house);
            } else {
                PlaySeason x = typed(new PlaySeason(), text);
                B.is("house() of " + text, x.house(), titles);
                B.is("house() of " + text + ", count(7)", x.count(7), 0);
                B.is("house() of " + text + ", count(8)", x.count(8), 1);
                B.is("house() again, of none", x.house(), PlaySeason.STATE);
                B.is("house() again, count(8)", x.count(8), 1);
            }
        }
        faultyHouses();
    }

    /** One letter of five titles at a time is such as no house has anywhere. */
    private static void faultyHouses() {
        for (int place = 0; place < FIVE.length(); place++) {
            String text = FIVE.substring(0, place) + "?" + FIVE.substring(place + 1);
            B.refused("house() of " + text, PlaySeason.STATE, () -> typed(Bounds.busy(), text), PlaySeason::house);
        }
        B.refused("house() of t00ba1", PlaySeason.STATE, () -> typed(Bounds.busy(), "t00ba1"), PlaySeason::house);
    }

    private static PlaySeason typed(PlaySeason x, String text) {
        x.blank();
        Due.type(x, text);
        return x;
    }

    private static void planLetters() {
        for (int titles = 1; titles <= 5; titles++) {
            String house = FIVE.substring(0, 7 * titles - 1);
            for (int place = 0; place < 12; place++) {
                for (int code = 32; code <= 126; code++) {
                    planLetter(house, titles, place, (char) code);
                }
            }
        }
    }

    private static void planLetter(String house, int titles, int place, char letter) {
        String text = ".".repeat(place) + letter + ".".repeat(11 - place);
        int title = ".01234".substring(0, titles + 1).indexOf(letter) - 1;
        PlaySeason x = typed(Due.withHouse(house), text);
        int want = title == -2 ? PlaySeason.STATE : title == -1 ? 0 : 1;
        B.is(titles + " titles, plan() of " + text, x.plan(), want);
        B.is(titles + " titles, " + text + ": count(7)", x.count(7), want < 0 ? 12 : 0);
        B.planIs(titles + " titles, " + text, x, want < 0 ? "............" : text);
    }

    private static void plans() {
        PlaySeason x = Due.withHouse(FIVE);
        for (int lit = 0; lit <= 12; lit++) {
            String text = "012340123401".substring(0, lit) + ".".repeat(12 - lit);
            typed(x, text);
            B.is("plan() of " + text, x.plan(), lit);
            B.is("count(7)", x.count(7), 0);
            B.planIs("plan()", x, text);
        }
        // what was on is gone
        typed(x, "............");
        B.is("plan() of none", x.plan(), 0);
        B.is("count(1)", x.count(1), 0);
        B.is("plan() of an empty page", x.plan(), PlaySeason.STATE);
    }

    private static void noPlan() {
        for (int many = 0; many <= 40; many++) {
            if (many != 12) {
                String text = ".".repeat(many);
                B.refused("plan() of " + many, PlaySeason.STATE, () -> typed(Bounds.busy(), text), PlaySeason::plan);
            }
        }
        B.refused("plan(), a wrong letter", PlaySeason.STATE, () -> typed(Bounds.busy(), "...........3"), PlaySeason::plan);
        B.refused("plan(), no HOUSE", PlaySeason.STATE, () -> typed(Bounds.bare(), "............"), PlaySeason::plan);
        B.refused("plan(), no HOUSE", PlaySeason.STATE, () -> typed(Bounds.bare(), "0..........."), PlaySeason::plan);
        B.refused("plan(), no HOUSE", PlaySeason.STATE, Bounds::bare, PlaySeason::plan);
    }

    // ---- promises 7 to 9

    private static void titleIs(PlaySeason x, int title, int... want) {
        for (int what = 0; what < want.length; what++) {
            B.is("title(" + title + ", " + what + ")", x.title(title, what), want[what]);
        }
    }

    private static void titles() {
        PlaySeason x = Due.withHouse("t00aa1,d44ll9,f20al5");
        titleIs(x, 0, 0, 0, 0, 0, 0, 1, 0, 31, 0);
        titleIs(x, 1, 4, 4, 4, 11, 11, 9, 0, 31, 0);
        titleIs(x, 2, 2, 2, 0, 0, 11, 5, 0, 31, 0);
        Due.replan(x, "111111111111");
        titleIs(x, 0, 0, 0, 0, 0, 0, 1, 0, 31, 0);
        titleIs(x, 1, 4, 4, 4, 11, 11, 9, 12, 31, 0);
        x.see(1, 0, true);
        titleIs(x, 1, 4, 4, 4, 11, 11, 9, 12, 25, 1);
        x.see(1, 1, true);
        titleIs(x, 1, 4, 4, 4, 11, 11, 9, 12, 17, 3);
        x.see(1, 2, true);
        titleIs(x, 1, 4, 4, 4, 11, 11, 9, 12, 0, PlaySeason.NONE);
        // from no night to all twelve, each title
        for (int title = 0; title < 5; title++) {
            PlaySeason y = Due.withHouse(FIVE);
            for (int night = 0; night < 12; night++) {
                B.is("title(" + title + ", 6), " + night, y.title(title, 6), night);
                y.play(night, title);
            }
            B.is("title(" + title + ", 6), all", y.title(title, 6), 12);
            B.is("title of another one, 6", y.title((title + 1) % 5, 6), 0);
        }
    }

    private static void noTitle() {
        for (int wild : Bounds.outside(0, -1)) {
            B.refused("title(" + wild + ", 0), no HOUSE", PlaySeason.UNKNOWN, Bounds::bare, x -> x.title(wild, 0));
        }
        for (int scene = 0; scene < 3; scene++) {
            for (int wild : Bounds.outside(0, Bounds.TITLES[scene] - 1)) {
                for (int what : new int[] {0, 6, 7, 8}) {
                    B.refused("title(" + wild + ", " + what + ")", PlaySeason.UNKNOWN, Bounds.WITH_HOUSE[scene],
                        x -> x.title(wild, what));
                }
            }
            int last = Bounds.TITLES[scene] - 1;
            B.so("there is a title " + last, Bounds.WITH_HOUSE[scene].make().title(last, 0) >= 0);
        }
        for (int wild : Bounds.outside(0, 8)) {
            B.refused("title(0, " + wild + ")", PlaySeason.OUTSIDE, Bounds.WITH_HOUSE, x -> x.title(0, wild));
        }
        for (int what = 0; what <= 8; what++) {
            B.so("title(0, " + what + ") is told", Bounds.one().title(0, what) >= 0);
        }
    }

    private static void taken() {
        for (int title = 0; title < 5; title++) {
            String[] isSo = {"10000", "11000", "11100", "10010", "10001"};
            for (int is = 0; is < 5; is++) {
                PlaySeason x = Due.withHouse("t00al1,t00al1,t00al1,t00al1,t00al1");
                x.be(title, is);
                for (int kind = 0; kind < 5; kind++) {
                    int want = isSo[is].charAt(kind) == '1' ? title : PlaySeason.NONE;
                    B.is("be(" + title + ", " + is + "), as(" + title + ", " + kind + ")", x.as(title, kind), want);
                }
            }
        }
    }

    private static void notTaken() {
        for (int wild : Bounds.outside(0, -1)) {
            B.refused("as(" + wild + ", 0), no HOUSE", PlaySeason.UNKNOWN, Bounds::bare, x -> x.as(wild, 0));
        }
        for (int scene = 0; scene < 3; scene++) {
            for (int wild : Bounds.outside(0, Bounds.TITLES[scene] - 1)) {
                B.refused("as(" + wild + ", 0)", PlaySeason.UNKNOWN, Bounds.WITH_HOUSE[scene], x -> x.as(wild, 0));
            }
            int last = Bounds.TITLES[scene] - 1;
            B.is("as(" + last + ", 0)", Bounds.WITH_HOUSE[scene].make().as(last, 0), last);
        }
        for (int wild : Bounds.outside(0, 4)) {
            B.refused("as(0, " + wild + ")", PlaySeason.OUTSIDE, Bounds.WITH_HOUSE, x -> x.as(0, wild));
        }
    }

    private static void nightIs(PlaySeason x, int night, int... want) {
        for (int what = 0; what < 3; what++) {
            B.is("night(" + night + ", " + what + ")", x.night(night, what), want[what]);
        }
    }

    private static void nights() {
        PlaySeason x = Due.withPlan("t00bl1,g01al9,f12al1,r00al4,d00al9", "04.........4");
        nightIs(x, 0, 0, 1, 150);
        nightIs(x, 1, 4, 0, 900);
        nightIs(x, 2, PlaySeason.NONE, 0, 0);
        nightIs(x, 10, PlaySeason.NONE, 0, 0);
        nightIs(x, 11, 4, 0, 630);
        Due.replan(x, "1.1..21.2.3.");
        nightIs(x, 0, 1, 0, 1350);
        nightIs(x, 1, PlaySeason.NONE, 0, 0);
        nightIs(x, 2, 1, 4, 945);
        nightIs(x, 5, 2, 5, 150);
        nightIs(x, 6, 1, 2, 661);
        nightIs(x, 8, 2, 4, 105);
        nightIs(x, 10, 3, 6, 400);
        Due.replan(x, "444000......");
        nightIs(x, 2, 4, 3, 441);
        nightIs(x, 3, 0, 3, 150);
        nightIs(x, 0, 4, 0, 900);
        // nights that broke, dark then
        Due.replan(x, "............");
        for (int night = 0; night < 12; night++) {
            nightIs(x, night, PlaySeason.NONE, 0, 0);
        }
    }

    private static void noNight() {
        for (int what = 0; what < 3; what++) {
            int own = what;
            for (int night : new int[] {0, 11, -1, 12}) {
                B.refused("night(" + night + ", " + what + "), no HOUSE", PlaySeason.UNKNOWN, Bounds::bare, x -> x.night(night, own));
            }
            for (int wild : Bounds.outside(0, 11)) {
                B.refused("night(" + wild + ", " + what + ")", PlaySeason.UNKNOWN, Bounds.WITH_HOUSE, x -> x.night(wild, own));
            }
        }
        for (int wild : Bounds.outside(0, 2)) {
            B.refused("night(0, " + wild + ")", PlaySeason.OUTSIDE, Bounds.WITH_HOUSE, x -> x.night(0, wild));
            B.refused("night(11, " + wild + ")", PlaySeason.OUTSIDE, Bounds.WITH_HOUSE, x -> x.night(11, wild));
        }
        for (int what = 0; what < 3; what++) {
            B.so("night(0, " + what + ") is told", Bounds.full().night(0, what) >= 0);
            B.so("night(11, " + what + ") is told", Bounds.full().night(11, what) >= 0);
        }
    }
}
