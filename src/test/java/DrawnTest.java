/** Promise 19: drawn. */
public final class DrawnTest {
    private static final Due DUE = new Due();

    public static void main(String[] args) {
        likePlansPut();
        refusals();
        DUE.end();
    }

    /** Puts by hand each plan that a seed draws, and adds up what count() tells of it. */
    private static void likePlansPut() {
        String[] houses = {"t00al9", "d00al9,g01bk3", "t00al9,f00al4,r11dl5,d12al2,g11ac7"};
        for (String house : houses) {
            for (int seed : new int[] {0, 1, 77, 123456789, Integer.MAX_VALUE}) {
                for (int times : new int[] {1, 2, 20}) {
                    likePlansPut(house, seed, times);
                }
            }
        }
    }

    private static void likePlansPut(String house, int seed, int times) {
        PlaySeason x = Due.withPlan(house, "0..0..0..0..");
        PlaySeason y = Due.withHouse(house);
        long next = seed;
        int broken = 0;
        int earned = 0;
        for (int time = 0; time < times; time++) {
            for (int night = 0; night < 12; night++) {
                next = (next * 1103515245L + 12345L) & 0x7fffffffL;
                y.play(night, (int) ((next >> 16) % (y.count(0) + 1)) - 1);
            }
            broken += y.count(2);
            earned += y.count(4);
        }
        long ahead = x.digest();
        String call = house + " drawn(" + times + ", " + seed + ", ";
        DUE.is(call + "0)", x.drawn(times, seed, 0), broken);
        DUE.is(call + "1)", x.drawn(times, seed, 1), earned);
        DUE.is(call + "2)", x.drawn(times, seed, 2), next);
        DUE.unchanged(call + ") leaves all as it was; not", x, ahead);
    }

    private static void refusals() {
        PlaySeason x = Due.withHouse("t00al1");
        for (int wild : new int[] {0, 21, -1, Integer.MIN_VALUE, Integer.MAX_VALUE}) {
            DUE.is("drawn(" + wild + ", 0, 0)", x.drawn(wild, 0, 0), PlaySeason.OUTSIDE);
        }
        for (int wild : new int[] {-1, Integer.MIN_VALUE}) {
            DUE.is("drawn(1, " + wild + ", 0)", x.drawn(1, wild, 0), PlaySeason.OUTSIDE);
        }
        for (int wild : new int[] {-1, 3, Integer.MIN_VALUE, Integer.MAX_VALUE}) {
            DUE.is("drawn(1, 0, " + wild + ")", x.drawn(1, 0, wild), PlaySeason.OUTSIDE);
        }
        DUE.is("drawn(1, 0, 2)", x.drawn(1, 0, 2) >= 0 ? 1 : 0, 1);
    }
}
