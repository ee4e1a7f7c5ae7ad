import java.io.IOException;
import java.math.BigInteger;
import java.nio.file.Files;
import java.nio.file.Path;
import java.util.ArrayList;
import java.util.HashSet;
import java.util.List;
import java.util.Set;

/** What the tests of boundary cases share: each sentence of the document is told by its words and tested on its own. */
final class Bounds {
    /** Makes an object, the same one each time. */
    interface Scene {
        PlaySeason make();
    }

    interface Call {
        long on(PlaySeason x);
    }

    private final Due due = new Due();
    private final String document = document();
    private final Set<String> numbers = new HashSet<>();
    private String number = "";

    /** All of the document with single blanks; empty where it is not at hand. */
    private static String document() {
        Path path = Path.of("../shared/DOC.md");
        try {
            return Files.exists(path) ? Files.readString(path).replaceAll("\\s+", " ") : "";
        } catch (IOException unread) {
            return "";
        }
    }

    /** A sentence by a number of its own, its words as the document has them, and its test. */
    void sentence(String own, String words, Runnable test) {
        number = "[" + own + "] ";
        so("the number is one sentence's alone", numbers.add(own));
        so("the document says: " + words, document.isEmpty() || document.contains(words));
        int ahead = due.asked();
        try {
            test.run();
        } catch (RuntimeException thrown) {
            so("nothing is thrown, but it was: " + thrown, false);
        }
        so("it was tested", due.asked() > ahead);
    }

    void is(String call, long got, long want) {
        due.is(number + call, got, want);
    }

    void so(String what, boolean is) {
        due.is(number + "whether " + what, is ? 1 : 0, 1);
    }

    void planIs(String call, PlaySeason x, String want) {
        due.plan(number + call, x, want);
    }

    void end() {
        due.end();
    }

    /** Whole numbers that are not from least to most: right beside the bounds, far off, and such as lose high bits. */
    static int[] outside(int least, int most) {
        long[] tries = {least - 1L, most + 1L, least - 2L, most + 2L, least - 256L, least + 256L, most + 65536L,
            Integer.MIN_VALUE, Integer.MIN_VALUE + (long) Math.max(least, 0), Integer.MAX_VALUE};
        List<Integer> outside = new ArrayList<>();
        for (long wild : tries) {
            boolean isInt = wild >= Integer.MIN_VALUE && wild <= Integer.MAX_VALUE;
            if (isInt && (wild < least || wild > most) && !outside.contains((int) wild)) {
                outside.add((int) wild);
            }
        }
        return outside.stream().mapToInt(i -> i).toArray();
    }

    /** A call that is refused: its answer, and that all goes on as on a twin that never had that call. */
    void refused(String call, int want, Scene scene, Call refused) {
        PlaySeason x = scene.make();
        is(call, refused.on(x), want);
        alike(call, x, scene.make());
    }

    /** The same call, refused by the same answer in each of some scenes. */
    void refused(String call, int want, Scene[] scenes, Call refused) {
        for (int scene = 0; scene < scenes.length; scene++) {
            refused("scene " + scene + " of " + scenes.length + ": " + call, want, scenes[scene], refused);
        }
    }

    /** All that is told, and then what can be told by going on alone: the image, the next letter, the next best plan. */
    void alike(String call, PlaySeason x, PlaySeason twin) {
        goesOn(call, x, twin, "digest()", PlaySeason::digest);
        goesOn(call, x, twin, "fault()", PlaySeason::fault);
        goesOn(call, x, twin, "drawn(2, 7, 1)", y -> y.drawn(2, 7, 1));
        goesOn(call, x, twin, "letter(120)", y -> y.letter('x'));
        goesOn(call, x, twin, "best(0, 3, 2)", y -> y.best(0, 3, 2));
        goesOn(call, x, twin, "add(3, 2, 1)", y -> y.add(3, 2, 1));
        goesOn(call, x, twin, "see(0, 1, true)", y -> y.see(0, 1, true));
        goesOn(call, x, twin, "restore()", PlaySeason::restore);
        goesOn(call, x, twin, "forget()", PlaySeason::forget);
        goesOn(call, x, twin, "blank()", PlaySeason::blank);
    }

    private void goesOn(String refused, PlaySeason x, PlaySeason twin, String next, Call call) {
        is(refused + ", then " + next, call.on(x), call.on(twin));
        is(refused + ", then " + next + " and digest()", x.digest(), twin.digest());
    }

    // ---- scenes

    static final Scene[] SCENES = {Bounds::bare, Bounds::one, Bounds::busy, Bounds::full};
    static final Scene[] WITH_HOUSE = {Bounds::one, Bounds::busy, Bounds::full};
    /** How many TITLES the scenes that have a HOUSE have. */
    static final int[] TITLES = {1, 3, 5};

    /** No HOUSE; THE PAGE has a part of one. */
    static PlaySeason bare() {
        PlaySeason x = new PlaySeason();
        Due.type(x, "t00al");
        return x;
    }

    /** One TITLE, all dark, nothing more. */
    static PlaySeason one() {
        return Due.withHouse("t21ck4");
    }

    /** Three TITLES, a PLAN that BREAKS, some SEEN, some letters, BEST told once, an IMAGE of how it was ahead of all that. */
    static PlaySeason busy() {
        PlaySeason x = Due.withPlan("d00al9,g11bk3,r01al4", "0.1.0.......");
        x.see(2, 3, false);
        x.image();
        x.be(1, 2);
        x.rights(0, 1, 7);
        x.best(3, 3, 0);
        Due.replan(x, "0.12.1..2...");
        x.see(0, 0, true);
        x.see(1, 1, false);
        Due.type(x, "t00al1,");
        return x;
    }

    /** Five TITLES, twelve NIGHTS, six SEEN, forty letters, BEST told eight times, an IMAGE. */
    static PlaySeason full() {
        PlaySeason x = Due.withPlan("t00al9,g01al3,r00al4,d02al1,f04bl6", "001020300134");
        for (int seen = 0; seen < 6; seen++) {
            x.see(seen % 5, seen % 4, seen % 2 == 0);
        }
        x.image();
        for (int told = 0; told < 8; told++) {
            x.best(told, told, 0);
        }
        x.play(0, 1);
        Due.type(x, "t00al9,g01al3,r00al4,d02al1,f04bl6,t00al");
        return x;
    }

    // ---- what plans tell

    /** By which each NIGHT BREAKS, as a text of digits. */
    void breaks(String house, String plan, String want) {
        PlaySeason x = Due.withPlan(house, plan);
        StringBuilder got = new StringBuilder();
        for (int night = 0; night < 12; night++) {
            got.append(x.night(night, 1));
        }
        so(house + " " + plan + " breaks by " + want + " (it does by " + got + ")", got.toString().equals(want));
    }

    /** SEATS of the first NIGHTS; those that are not told have none. */
    void seats(String house, String plan, int... want) {
        PlaySeason x = Due.withPlan(house, plan);
        for (int night = 0; night < 12; night++) {
            is(house + " " + plan + " night(" + night + ", 2)", x.night(night, 2), night < want.length ? want[night] : 0);
        }
    }

    /** So many plans that a seed draws, each put by hand: how many NIGHTS BREAK, how much is EARNED, the seed then. */
    static int[] drawnByHand(String house, int seed, int times) {
        BigInteger now = BigInteger.valueOf(seed);
        int broken = 0;
        int earned = 0;
        for (int time = 0; time < times; time++) {
            PlaySeason x = Due.withHouse(house);
            for (int night = 0; night < 12; night++) {
                now = nextSeed(now);
                int draw = now.divide(BigInteger.valueOf(65536)).intValueExact() % (x.count(0) + 1);
                x.play(night, draw == 0 ? PlaySeason.NONE : draw - 1);
            }
            broken += x.count(2);
            earned += x.count(4);
        }
        return new int[] {broken, earned, now.intValueExact()};
    }

    private static BigInteger nextSeed(BigInteger seed) {
        return seed.multiply(BigInteger.valueOf(1103515245)).add(BigInteger.valueOf(12345)).mod(BigInteger.TWO.pow(31));
    }

    /** That drawn() tells what those plans do that are put by hand. */
    void drawnIs(String house, int seed, int times) {
        int[] want = drawnByHand(house, seed, times);
        PlaySeason x = Due.withHouse(house);
        for (int what = 0; what < 3; what++) {
            is(house + " drawn(" + times + ", " + seed + ", " + what + ")", x.drawn(times, seed, what), want[what]);
        }
    }

    /** A plan that is dark but for some NIGHTS: pairs of a NIGHT and a TITLE; a NIGHT that there is not is left out. */
    static String plan(int... pairs) {
        char[] nights = "............".toCharArray();
        for (int i = 0; i < pairs.length; i += 2) {
            if (pairs[i] >= 0 && pairs[i] < 12) {
                nights[pairs[i]] = (char) ('0' + pairs[i + 1]);
            }
        }
        return new String(nights);
    }

    /** Twelve digits: those told by pairs of a NIGHT and a digit, the others 0. */
    static String digits(int... pairs) {
        return plan(pairs).replace('.', '0');
    }
}
