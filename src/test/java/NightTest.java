/** Promises 9, 10 and 11: night, play, delay; by which a PLAN BREAKS, and SEATS. */
public final class NightTest {
    private static final Due DUE = new Due();
    private static final int[] WILD = {-1, 12, Integer.MIN_VALUE, Integer.MAX_VALUE};

    public static void main(String[] args) {
        breaks();
        seats();
        nights();
        plays();
        delays();
        DUE.end();
    }

    /** The breaks of each night, as a text of digits. */
    private static void breaks(String house, String plan, String want) {
        PlaySeason x = Due.withPlan(house, plan);
        int broken = 0;
        for (int night = 0; night < 12; night++) {
            int by = want.charAt(night) - '0';
            broken += by == 0 ? 0 : 1;
            DUE.is(house + " " + plan + " night(" + night + ", 1)", x.night(night, 1), by);
        }
        DUE.is(house + " " + plan + " count(2)", x.count(2), broken);
    }

    private static void breaks() {
        breaks("t00cj1", "0.0.0..0.0.0", "100000000001");
        breaks("t00al1,t10al1,t01al1", "01.0.1.02.10", "020000000002");
        breaks("t00al1,t01al1,t00al1", "020.0020.010", "003000330000");
        breaks("t00al1,t11al1,t20al1", "00100.00.00.", "002200000000");
        breaks("g00al1", "0...0......0", "000040000004");
        breaks("f00al1", "0...0......0", "500040000004");
        breaks("f00al1,t00al1,t01al1", "1.0.1.2.....", "005000000000");
        breaks("f00al1,t00al1,t01al1", "1.0.2.......", "000000000000");
        breaks("r00al1", "0.00........", "600000000000");
        breaks("r00al1,t01al1", "010.10.00..0", "606006000006");
        breaks("r00al1", "00........00", "000000000000");
        breaks("r00bl1", "00..........", "100000000000");
        breaks("r00al1,t10al1", "10..........", "020000000000");
        // of several the first: rights ahead of sets ahead of rest ahead of once ahead of behind
        breaks("t00al1,t10bb1", "001.........", "001000000000");
        breaks("t00al1,g10al1", "1.001.......", "000020000000");
        breaks("g00al1", "000.........", "043000000000");
        breaks("f00al1", "0000........", "543300000000");
        breaks("f00bb1", "0.0.........", "101000000000");
        breaks("t00al1,r00al1", "001.........", "003000000000");
    }

    private static void seats(String house, String plan, int... want) {
        PlaySeason x = Due.withPlan(house, plan);
        int earned = 0;
        for (int night = 0; night < 12; night++) {
            int filled = night < want.length ? want[night] : 0;
            DUE.is(house + " " + plan + " night(" + night + ", 2)", x.night(night, 2), filled);
            earned += x.night(night, 1) == 0 ? filled : 0;
        }
        DUE.is(house + " " + plan + " count(4)", x.count(4), earned);
    }

    private static void seats() {
        seats("t00al1", "0.0.0.0.0.0.", 100, 0, 70, 0, 49, 0, 34, 0, 34, 0, 34, 0);
        seats("t00al9", "00.00.00....", 900, 630, 0, 441, 308, 0, 308, 308);
        seats("t00dl9", "00.00.00....", 900, 630, 0, 441, 308, 0, 308, 308);
        seats("g00al7", "0.0.0.0.0...", 1050, 0, 735, 0, 514, 0, 360, 0, 360);
        seats("f00al3", "0.0.0.0.....", 450, 0, 315, 0, 220, 0, 153);
        seats("d00al2,t00al3", "0101........", 200, 350, 140, 260);
        seats("d00al2", "000.........", 200, 140, 98);
        seats("d00al2,d00al3", "01.1.0......", 250, 350, 0, 210, 0, 140);
        seats("d00al2,g00al3,r00al4", "0.10.2.02...", 200, 0, 500, 140, 0, 400, 0, 98, 330);
        seats("d10al2,t00al3", "10..........", 350, 200);
        seats("d00al2,g00al3", "11.10.......", 450, 315, 0, 270, 200);
        seats("r00al5", "0...........", 500);
    }

    private static void nights() {
        PlaySeason x = Due.withPlan("t00al1,t10al2", ".01.........");
        DUE.is("night(0, 0)", x.night(0, 0), PlaySeason.NONE);
        DUE.is("night(0, 1)", x.night(0, 1), 0);
        DUE.is("night(0, 2)", x.night(0, 2), 0);
        DUE.is("night(1, 0)", x.night(1, 0), 0);
        DUE.is("night(2, 0)", x.night(2, 0), 1);
        DUE.is("night(11, 0)", x.night(11, 0), PlaySeason.NONE);
        for (int wild : WILD) {
            DUE.is("night(" + wild + ", 0)", x.night(wild, 0), PlaySeason.UNKNOWN);
            DUE.is("night(" + wild + ", 3)", x.night(wild, 3), PlaySeason.UNKNOWN);
        }
        for (int wild : new int[] {-1, 3, Integer.MIN_VALUE, Integer.MAX_VALUE}) {
            DUE.is("night(0, " + wild + ")", x.night(0, wild), PlaySeason.OUTSIDE);
        }
    }

    private static void plays() {
        PlaySeason x = Due.withHouse("g00al1,t10al2");
        DUE.is("play(0, 0)", x.play(0, 0), 0);
        DUE.is("play(11, 0)", x.play(11, 0), 1);
        DUE.is("play(1, 1)", x.play(1, 1), 2);
        DUE.plan("play", x, "01.........0");
        DUE.is("play(0, -1)", x.play(0, PlaySeason.NONE), 0);
        DUE.is("play(0, -1) again", x.play(0, PlaySeason.NONE), 0);
        DUE.plan("play", x, ".1.........0");
        DUE.is("play(1, 0)", x.play(1, 0), 1);
        DUE.plan("play", x, ".0.........0");
        long ahead = x.digest();
        for (int wild : WILD) {
            DUE.is("play(" + wild + ", 0)", x.play(wild, 0), PlaySeason.UNKNOWN);
        }
        for (int wild : new int[] {-2, 2, 5, Integer.MIN_VALUE, Integer.MAX_VALUE, PlaySeason.UNKNOWN}) {
            DUE.is("play(0, " + wild + ")", x.play(0, wild), PlaySeason.UNKNOWN);
        }
        DUE.unchanged("play", x, ahead);
    }

    private static void delays() {
        PlaySeason x = Due.withPlan("t00al1,g11al2", "01.1......0.");
        DUE.is("delay(1)", x.delay(1), 4);
        DUE.plan("delay(1)", x, ".01.1......0");
        DUE.is("delay(1), night(4, 1)", x.night(4, 1), 4);
        DUE.is("delay(1), night(2, 1)", x.night(2, 1), 2);
        DUE.is("delay(3)", x.delay(3), 3);
        DUE.plan("delay(3)", x, "....01.1....");
        DUE.is("delay(3), count(2)", x.count(2), 2);
        DUE.is("delay(11)", x.delay(11), 0);
        DUE.plan("delay(11)", x, "............");
        Due.replan(x, "0.........11");
        DUE.is("delay(11)", x.delay(11), 1);
        DUE.plan("delay(11)", x, "...........0");
        long ahead = x.digest();
        for (int wild : new int[] {0, 12, -1, Integer.MIN_VALUE, Integer.MAX_VALUE}) {
            DUE.is("delay(" + wild + ")", x.delay(wild), PlaySeason.OUTSIDE);
        }
        DUE.unchanged("delay", x, ahead);
    }
}
