import java.math.BigInteger;

/** Boundary cases of promises 16 to 23: rank, see, forget, drawn, image, restore, count, digest. */
public final class BoundsToldTest {
    private static final Bounds B = new Bounds();
    private static final String FIVE = "t00al1,t01al2,t02al3,t03al4,t04al5";

    public static void main(String[] args) {
        seen();
        images();
        all();
        B.end();
    }

    private static void seen() {
        B.sentence("16.1", "The TITLE at a place (from 0) of RANKS.", BoundsToldTest::ranks);
        B.sentence("16.2", "UNKNOWN: there are not so many.", BoundsToldTest::notSoMany);
        B.sentence("17.1", "It is SEEN: how much is.", BoundsToldTest::sees);
        B.sentence("17.2", "UNKNOWN: title; OUTSIDE: what (0 to 3); FULL.", BoundsToldTest::seesNot);
        B.sentence("18.1", "Nothing is SEEN any more: how much was.", BoundsToldTest::forgets);
        B.sentence("19.1", "DRAWN: what = 0 how many NIGHTS, 1 how much, 2 the SEED then.", BoundsToldTest::drawn);
        B.sentence("19.2", "OUTSIDE: times (1 to 20), seed (0 at least), what; STATE: no HOUSE.", BoundsToldTest::drawnNot);
    }

    private static void images() {
        B.sentence("20.1", "An IMAGE is kept (one; the latest): how many TITLES.", BoundsToldTest::latest);
        B.sentence("20.2", "how many TITLES. STATE: no HOUSE.", BoundsToldTest::noImage);
        B.sentence("21.1", "It goes on from the IMAGE: how many TITLES.", BoundsToldTest::goesOn);
        B.sentence("21.2", "STATE: none was kept, or a HOUSE was read since (of the same text, too).", BoundsToldTest::readSince);
    }

    private static void all() {
        B.sentence("22.1", "How many: 0 TITLES, 1 NIGHTS that have a TITLE, 2 NIGHTS that BREAK, 3 LOST, 4 EARNED, 5 unlike TITLES"
            + " that are on, 6 what is SEEN, 7 letters of THE PAGE, 8 how often a HOUSE was read, 9 how often best() was told.",
            BoundsToldTest::counts);
        B.sentence("22.2", "(3: 12 without a HOUSE.)", BoundsToldTest::lostWithoutHouse);
        B.sentence("22.3", "(3: 12 without a HOUSE.) OUTSIDE.", BoundsToldTest::countsNot);
        B.sentence("23.1", "h is 1459, then for each of these numbers, in order, 31 times h, and it (as longs, wrapping)",
            BoundsToldTest::wraps);
        B.sentence("23.2", "of each TITLE what title() tells for 0 to 8; with a HOUSE of each NIGHT what night() tells for 0 to 2;"
            + " RANKS; letters of THE PAGE; what count() tells for 0 to 9.", BoundsToldTest::numbersOfDigest);
    }

    // ---- promise 16

    private static void ranks() {
        for (int titles = 1; titles <= 5; titles++) {
            PlaySeason x = Due.withHouse(FIVE.substring(0, 7 * titles - 1));
            for (int place = 0; place < titles; place++) {
                B.is(titles + " titles, none on, rank(" + place + ")", x.rank(place), place);
            }
            // the last title is on, all others stay by number
            x.play(11, titles - 1);
            for (int place = 0; place < titles; place++) {
                int want = place == 0 ? titles - 1 : place - 1;
                B.is(titles + " titles, the last one on, rank(" + place + ")", x.rank(place), want);
            }
        }
    }

    private static void notSoMany() {
        for (int wild : Bounds.outside(0, -1)) {
            B.refused("rank(" + wild + "), no HOUSE", PlaySeason.UNKNOWN, Bounds::bare, x -> x.rank(wild));
        }
        for (int scene = 0; scene < 3; scene++) {
            int last = Bounds.TITLES[scene] - 1;
            for (int wild : Bounds.outside(0, last)) {
                B.refused("rank(" + wild + ")", PlaySeason.UNKNOWN, Bounds.WITH_HOUSE[scene], x -> x.rank(wild));
            }
            B.so("there is a rank(" + last + ")", Bounds.WITH_HOUSE[scene].make().rank(last) >= 0);
        }
    }

    // ---- promises 17 and 18

    private static void sees() {
        for (int title = 0; title < 5; title++) {
            for (int what = 0; what < 4; what++) {
                PlaySeason x = Due.withHouse(FIVE);
                for (int many = 1; many <= 6; many++) {
                    B.is("see(" + title + ", " + what + ", " + (many < 6) + ")", x.see(title, what, many < 6), many);
                    B.is("count(6)", x.count(6), many);
                }
                B.is("title(" + title + ", 7), it is so and it is not", x.title(title, 7), 0);
                B.is("title of another one", x.title((title + 1) % 5, 7), 31);
            }
        }
    }

    private static void seesNot() {
        for (int wild : Bounds.outside(0, -1)) {
            B.refused("see(" + wild + ", 0, true), no HOUSE", PlaySeason.UNKNOWN, Bounds::bare, x -> x.see(wild, 0, true));
        }
        for (int scene = 0; scene < 3; scene++) {
            for (int wild : Bounds.outside(0, Bounds.TITLES[scene] - 1)) {
                B.refused("see(" + wild + ", 0, true)", PlaySeason.UNKNOWN, Bounds.WITH_HOUSE[scene], x -> x.see(wild, 0, true));
            }
        }
        for (int wild : Bounds.outside(0, 3)) {
            B.refused("see(0, " + wild + ", false)", PlaySeason.OUTSIDE, Bounds.WITH_HOUSE, x -> x.see(0, wild, false));
        }
        for (int title = 0; title < 5; title++) {
            for (int what = 0; what < 4; what++) {
                seventh(title, what, true);
                seventh(title, what, false);
            }
        }
    }

    private static void seventh(int title, int what, boolean could) {
        String call = "see(" + title + ", " + what + ", " + could + "), the seventh";
        B.refused(call, PlaySeason.FULL, Bounds::full, x -> x.see(title, what, could));
    }

    private static void forgets() {
        for (int many = 0; many <= 6; many++) {
            PlaySeason x = Due.withHouse(FIVE);
            for (int seen = 0; seen < many; seen++) {
                x.see(seen % 5, seen % 4, true);
            }
            B.is("forget() of " + many, x.forget(), many);
            B.is("count(6)", x.count(6), 0);
            B.is("forget() again", x.forget(), 0);
            for (int title = 0; title < 5; title++) {
                B.is("title(" + title + ", 7)", x.title(title, 7), 31);
                B.is("title(" + title + ", 8)", x.title(title, 8), 0);
            }
            B.is("see behind that", x.see(0, 3, true), 1);
            B.is("title(0, 7)", x.title(0, 7), 16);
        }
        B.is("forget() without a HOUSE", Bounds.bare().forget(), 0);
    }

    // ---- promise 19

    private static void drawn() {
        B.is("drawn(1, 2147483647, 2)", Due.withHouse("t00aa1").drawn(1, Integer.MAX_VALUE, 2), 561616019);
        for (int seed : new int[] {0, 1, Integer.MAX_VALUE}) {
            B.drawnIs("t00aa1", seed, 1);
            B.drawnIs("t00aa1", seed, 20);
            B.drawnIs(FIVE, seed, 1);
            B.drawnIs(FIVE, seed, 20);
        }
        // many plans are one behind another, the next from the seed of the one ahead
        PlaySeason y = Due.withHouse("t00al9,g01al3,r00al4,d02al1,f04bl6");
        for (int what = 0; what < 2; what++) {
            int sum = 0;
            int seed = 77;
            for (int times = 1; times <= 20; times++) {
                sum += y.drawn(1, seed, what);
                seed = y.drawn(1, seed, 2);
                B.is("drawn(" + times + ", 77, " + what + ")", y.drawn(times, 77, what), sum);
                B.is("drawn(" + times + ", 77, 2)", y.drawn(times, 77, 2), seed);
            }
        }
        B.so("drawn(20, 77, 1) is more than none", y.drawn(20, 77, 1) > 0);
    }

    private static void drawnNot() {
        for (int what = 0; what < 3; what++) {
            int own = what;
            for (int wild : Bounds.outside(1, 20)) {
                B.refused("drawn(" + wild + ", 0, " + what + ")", PlaySeason.OUTSIDE, Bounds.SCENES, x -> x.drawn(wild, 0, own));
            }
            for (int wild : Bounds.outside(0, Integer.MAX_VALUE)) {
                B.refused("drawn(1, " + wild + ", " + what + ")", PlaySeason.OUTSIDE, Bounds.SCENES, x -> x.drawn(1, wild, own));
            }
            for (int times : new int[] {1, 20}) {
                for (int seed : new int[] {0, Integer.MAX_VALUE}) {
                    String call = "drawn(" + times + ", " + seed + ", " + what + ")";
                    B.refused(call + ", no HOUSE", PlaySeason.STATE, Bounds::bare, x -> x.drawn(times, seed, own));
                    B.so(call + " is told", Bounds.one().drawn(times, seed, what) >= 0);
                }
            }
        }
        for (int wild : Bounds.outside(0, 2)) {
            B.refused("drawn(1, 0, " + wild + ")", PlaySeason.OUTSIDE, Bounds.SCENES, x -> x.drawn(1, 0, wild));
            B.refused("drawn(20, 2147483647, " + wild + ")", PlaySeason.OUTSIDE, Bounds.SCENES,
                x -> x.drawn(20, Integer.MAX_VALUE, wild));
        }
    }

    // ---- promises 20 and 21

    private static void latest() {
        for (int titles = 1; titles <= 5; titles++) {
            PlaySeason x = Due.withHouse(FIVE.substring(0, 7 * titles - 1));
            B.is("image() of " + titles, x.image(), titles);
        }
        PlaySeason x = Due.withHouse("t00al1");
        x.image();
        x.play(0, 0);
        x.image();
        x.play(1, 0);
        long third = x.digest();
        B.is("image(), the third", x.image(), 1);
        x.play(2, 0);
        for (int time = 0; time < 3; time++) {
            B.is("restore(), time " + time, x.restore(), 1);
            B.planIs("restore()", x, "00..........");
            B.is("restore(), digest()", x.digest(), third);
        }
        // to keep an image changes nothing
        PlaySeason y = Bounds.one();
        y.image();
        B.is("image(), digest()", y.digest(), Bounds.one().digest());
    }

    private static void noImage() {
        B.refused("image(), no HOUSE", PlaySeason.STATE, Bounds::bare, PlaySeason::image);
        B.refused("image(), new", PlaySeason.STATE, PlaySeason::new, PlaySeason::image);
        PlaySeason x = Bounds.bare();
        x.image();
        B.is("restore() behind an image() that was refused", x.restore(), PlaySeason.STATE);
    }

    private static void goesOn() {
        // fewer titles than there are, and more of them
        PlaySeason x = Due.withHouse("t00al1");
        x.image();
        for (int title = 1; title < 5; title++) {
            x.add(title, title, title);
            x.play(title, title);
            x.see(title, title % 4, true);
        }
        B.is("restore()", x.restore(), 1);
        B.is("count(0)", x.count(0), 1);
        B.is("title(1, 0)", x.title(1, 0), PlaySeason.UNKNOWN);
        B.is("rank(1)", x.rank(1), PlaySeason.UNKNOWN);
        B.is("play(0, 1)", x.play(0, 1), PlaySeason.UNKNOWN);
        B.is("count(5)", x.count(5), 0);
        B.is("count(6)", x.count(6), 0);
        B.planIs("restore()", x, "............");
        // goes on: what comes then changes no image
        x.add(4, 4, 4);
        x.play(0, 1);
        x.see(1, 3, true);
        B.is("restore() again", x.restore(), 1);
        B.planIs("restore() again", x, "............");
        B.is("add behind that", x.add(0, 0, 0), 1);
        B.is("title(1, 7)", x.title(1, 7), 31);
        B.is("title(1, 6)", x.title(1, 6), 0);
        // all that is full can be gone on from
        PlaySeason y = Bounds.full();
        B.is("restore(), full", y.restore(), 5);
        B.planIs("restore(), full", y, "001020300134");
        B.is("count(6), full", y.count(6), 6);
        B.is("count(7), full", y.count(7), 40);
        B.is("count(9), full", y.count(9), 8);
    }

    private static void readSince() {
        B.refused("restore(), new", PlaySeason.STATE, PlaySeason::new, PlaySeason::restore);
        B.refused("restore(), no HOUSE", PlaySeason.STATE, Bounds::bare, PlaySeason::restore);
        B.refused("restore(), none was kept", PlaySeason.STATE, Bounds::one, PlaySeason::restore);
        B.refused("restore(), a HOUSE was read", PlaySeason.STATE, () -> readAgain("t00al2"), PlaySeason::restore);
        B.refused("restore(), the same text was read", PlaySeason.STATE, () -> readAgain("t00al1"), PlaySeason::restore);
        // a page that is none is not read
        PlaySeason x = Due.withHouse("t00al1");
        x.image();
        Due.type(x, "t00al");
        B.is("house() of a part", x.house(), PlaySeason.STATE);
        B.is("restore()", x.restore(), 1);
        B.is("restore() again", x.restore(), 1);
        // a PLAN is not a HOUSE
        Due.replan(x, "0...........");
        B.is("restore() behind plan()", x.restore(), 1);
        // one that is kept since is gone on from
        PlaySeason y = readAgain("t00al1");
        B.is("image() since", y.image(), 1);
        B.is("restore() since", y.restore(), 1);
    }

    private static PlaySeason readAgain(String house) {
        PlaySeason x = Due.withPlan("t00al1", "0...........");
        x.image();
        Due.type(x, house);
        x.house();
        return x;
    }

    // ---- promises 22 and 23

    private static void countsAre(String call, PlaySeason x, int... want) {
        for (int what = 0; what < want.length; what++) {
            B.is(call + ": count(" + what + ")", x.count(what), want[what]);
        }
    }

    private static void counts() {
        countsAre("new", new PlaySeason(), 0, 0, 0, 12, 0, 0, 0, 0, 0, 0);
        countsAre("bare", Bounds.bare(), 0, 0, 0, 12, 0, 0, 0, 5, 0, 0);
        countsAre("one", Bounds.one(), 1, 0, 0, 12, 0, 0, 0, 0, 1, 0);
        PlaySeason x = Due.withPlan(FIVE, "012340123401");
        countsAre("no night breaks", x, 5, 12, 0, 0, 219 + 438 + 510 + 680 + 850, 5, 0, 0, 1, 0);
        Due.replan(x, "000000000000");
        countsAre("one title", x, 5, 12, 10, 10, 170, 1, 0, 0, 1, 0);
        for (int title = 0; title < 5; title++) {
            x.rights(title, 11, 11);
        }
        countsAre("all nights break", x, 5, 12, 12, 12, 0, 1, 0, 0, 1, 0);
        PlaySeason y = Bounds.full();
        B.is("full: count(0)", y.count(0), 5);
        B.is("full: count(1)", y.count(1), 12);
        B.is("full: count(5)", y.count(5), 5);
        B.is("full: count(6)", y.count(6), 6);
        B.is("full: count(7)", y.count(7), 40);
        B.is("full: count(8)", y.count(8), 1);
        B.is("full: count(9)", y.count(9), 8);
        // titles of the same text are unlike
        B.is("count(5)", Due.withPlan("t00al1,t00al1", "0.1.........").count(5), 2);
        for (int unlike = 0; unlike <= 5; unlike++) {
            String plan = "0.1.2.3.4.".substring(0, 2 * unlike) + ".".repeat(12 - 2 * unlike);
            B.is("count(5) of " + plan, Due.withPlan(FIVE, plan).count(5), unlike);
        }
        houseCounts();
    }

    private static void houseCounts() {
        PlaySeason x = new PlaySeason();
        for (int read = 1; read <= 20; read++) {
            Due.type(x, "t00al1");
            x.house();
            x.house();
            B.is("count(8)", x.count(8), read);
        }
    }

    private static void lostWithoutHouse() {
        B.is("new: count(3)", new PlaySeason().count(3), 12);
        B.is("bare: count(3)", Bounds.bare().count(3), 12);
        PlaySeason x = Bounds.bare();
        x.play(0, 0);
        x.delay(1);
        x.restore();
        B.is("refused all: count(3)", x.count(3), 12);
        B.is("refused all: count(2)", x.count(2), 0);
    }

    private static void countsNot() {
        for (int wild : Bounds.outside(0, 9)) {
            B.refused("count(" + wild + ")", PlaySeason.OUTSIDE, Bounds.SCENES, x -> x.count(wild));
        }
        for (int what = 0; what < 10; what++) {
            for (Bounds.Scene scene : Bounds.SCENES) {
                B.so("count(" + what + ") is told", scene.make().count(what) >= 0);
            }
        }
    }

    /** The digest as a whole number of any size, of which a long keeps the last 64 bits. */
    private static BigInteger whole(PlaySeason x, String page) {
        BigInteger h = BigInteger.valueOf(1459);
        for (int title = 0; title < x.count(0); title++) {
            for (int what = 0; what <= 8; what++) {
                h = with(h, x.title(title, what));
            }
        }
        for (int night = 0; night < 12 && x.count(0) > 0; night++) {
            for (int what = 0; what <= 2; what++) {
                h = with(h, x.night(night, what));
            }
        }
        for (int place = 0; place < x.count(0); place++) {
            h = with(h, x.rank(place));
        }
        for (int i = 0; i < page.length(); i++) {
            h = with(h, page.charAt(i));
        }
        for (int what = 0; what <= 9; what++) {
            h = with(h, x.count(what));
        }
        return h;
    }

    private static BigInteger with(BigInteger h, int number) {
        return h.multiply(BigInteger.valueOf(31)).add(BigInteger.valueOf(number));
    }

    private static void wraps() {
        B.is("digest(), new: 1459 and ten numbers do not fit, either", new PlaySeason().digest(),
            whole(new PlaySeason(), "").longValue());
        PlaySeason x = Bounds.full();
        BigInteger whole = whole(x, "t00al9,g01al3,r00al4,d02al1,f04bl6,t00al");
        B.so("it is far beyond a long", whole.bitLength() > 64);
        B.is("digest(), full", x.digest(), whole.longValue());
        B.is("digest() again", x.digest(), whole.longValue());
        boolean below = false;
        for (int night = 0; night < 12; night++) {
            x.play(night, PlaySeason.NONE);
            below |= x.digest() < 0;
            B.is("digest(), dark up to " + night, x.digest(), whole(x, "t00al9,g01al3,r00al4,d02al1,f04bl6,t00al").longValue());
        }
        B.so("one of them is below 0", below);
    }

    private static void numbersOfDigest() {
        // without a HOUSE there are no nights: ten counts alone, and the letters ahead of them
        long h = 1459;
        for (int what = 0; what < 10; what++) {
            h = 31 * h + (what == 3 ? 12 : 0);
        }
        B.is("digest(), new", new PlaySeason().digest(), h);
        for (int many = 0; many <= 40; many++) {
            String page = "~ }!|\"{#z$y%x&w'v(u)t*s+r,q-p.o/n0m1l2k3".substring(0, many);
            PlaySeason x = new PlaySeason();
            Due.type(x, page);
            B.is("digest(), " + many + " letters", x.digest(), whole(x, page).longValue());
        }
        for (int titles = 1; titles <= 5; titles++) {
            PlaySeason x = Due.withHouse(FIVE.substring(0, 7 * titles - 1));
            B.is("digest(), " + titles + " titles", x.digest(), whole(x, "").longValue());
            x.play(11, titles - 1);
            x.see(titles - 1, 0, false);
            B.is("digest(), " + titles + " titles, one on", x.digest(), whole(x, "").longValue());
        }
        B.is("digest(), busy", Bounds.busy().digest(), whole(Bounds.busy(), "t00al1,").longValue());
    }
}
