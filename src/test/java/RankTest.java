/** Promise 16: rank. */
public final class RankTest {
    private static final Due DUE = new Due();

    public static void main(String[] args) {
        ranks("t00al1,t01al1,t02al1", "............", 0, 1, 2);
        ranks("t00al9,t01al1,t02al1", "0.1.1.2.2.2.", 2, 1, 0);
        // how often they are on is ahead of what they earn
        ranks("t00al9,t01al1", "0.1.1.......", 1, 0);
        // of like ones by seats
        ranks("t00al2,t01al4,t02al3", "0.1.2.......", 1, 2, 0);
        // seats of nights that break do not count, but such nights do
        ranks("t00al2,t01bl9,t02al3", "1.0.2.......", 2, 0, 1);
        ranks("t00al9,t01bb1", "0.1.1.......", 1, 0);
        // of like ones by number
        ranks("t00al3,t01al3,t02al9,t03al3,t04al3", "4.3.1.0.....", 0, 1, 3, 4, 2);
        wrongPlaces();
        changes();
        DUE.end();
    }

    private static void ranks(String house, String plan, int... want) {
        PlaySeason x = Due.withPlan(house, plan);
        for (int place = 0; place < want.length; place++) {
            DUE.is(house + " " + plan + " rank(" + place + ")", x.rank(place), want[place]);
        }
        DUE.is(house + " " + plan + " rank(" + want.length + ")", x.rank(want.length), PlaySeason.UNKNOWN);
    }

    private static void wrongPlaces() {
        PlaySeason x = Due.withHouse("t00al1,t01al1,t02al1,t02al1,t02al1");
        for (int place : new int[] {-1, 5, Integer.MIN_VALUE, Integer.MAX_VALUE}) {
            DUE.is("rank(" + place + ")", x.rank(place), PlaySeason.UNKNOWN);
        }
    }

    private static void changes() {
        PlaySeason x = Due.withPlan("t00al2,t01al1", "0...1.......");
        DUE.is("rank(0)", x.rank(0), 0);
        x.rights(0, 1, 11);
        DUE.is("rank(0), other rights", x.rank(0), 1);
        x.add(0, 2, 2);
        x.play(8, 2);
        DUE.is("rank(0), one more", x.rank(0), 2);
        DUE.is("rank(2), one more", x.rank(2), 0);
    }
}
