/** Promise 15: best. */
public final class BestTest {
    private static final Due DUE = new Due();

    public static void main(String[] args) {
        fewestLostAheadOfMostEarned();
        firstOfLikeOnes();
        wholePlanCounts();
        spans();
        refusals();
        told();
        DUE.end();
    }

    /** What all three whats answer, and the plan that it becomes. */
    private static void best(String house, String plan, int first, int last, String want) {
        PlaySeason x = Due.withPlan(house, plan);
        PlaySeason y = Due.withPlan(house, want);
        String call = house + " " + plan + " best(" + first + ", " + last + ", ";
        long ahead = x.digest();
        DUE.is(call + "0)", x.best(first, last, 0), y.count(3));
        DUE.is(call + "1)", x.best(first, last, 1), y.count(4));
        DUE.plan(call + "1)", x, plan);
        DUE.is(call + "1), digest, but for the last count", x.digest(), ahead + 2);
        DUE.is(call + "2)", x.best(first, last, 2), y.count(1));
        DUE.plan(call + "2)", x, want);
        DUE.is(call + "2), count(3)", x.count(3), y.count(3));
        DUE.is(call + "2), count(4)", x.count(4), y.count(4));
        DUE.is(call + "2), count(9)", x.count(9), 3);
    }

    private static void fewestLostAheadOfMostEarned() {
        // two nights of small fill are better than one of great fill
        best("t00al1,g11al9", "0...0.......", 1, 3, "00.00.......");
        // of like ones by nights lost, what earns more
        best("t00al1,t01al9", "............", 0, 3, "1011........");
        best("t00al9,t01al1", "............", 0, 0, "0...........");
    }

    private static void firstOfLikeOnes() {
        // dark is ahead of title 0: of nights that break all the same, or all alike, the first is taken
        best("t00bl5", "............", 0, 0, "............");
        best("t00al5,t01al5", "............", 0, 0, "0...........");
        best("t00bl5,t01al5,t02al5", "............", 0, 0, "1...........");
        best("t00al5", ".00.........", 0, 0, ".00.........");
        best("r00al5", "............", 0, 2, ".00.........");
        best("t00al1,g10al9", "0..0........", 1, 2, "0.00........");
    }

    private static void wholePlanCounts() {
        // filling night 1 makes the farewell at night 0 break, so that it stays dark
        best("f00al5,t00al5", "0...........", 1, 1, "0...........");
        // what draws others counts, though the night itself earns less
        best("d00al5,t00al5", ".1..........", 0, 0, "01..........");
        // a night filled ahead of others makes those fill less
        best("t00al9,t01al4", ".00.........", 0, 0, "100.........");
    }

    private static void spans() {
        best("t00al5", "............", 11, 11, "...........0");
        best("t00al5", "00.00.00.00.", 0, 11, "00.00.00.00.");
        best("t00al5,t01al1", "00.00.00.00.", 0, 11, "001001001001");
        best("t00al5,t01al1", "00.00.00.00.", 3, 10, "00.00100100.");
        best("t00al5,t01al1", "00.00.00.00.", 2, 2, "00100.00.00.");
        best("t00al5", "000.........", 0, 2, "000.........");
        // one span behind another, on one object
        PlaySeason x = Due.withPlan("t00al5,t01al1", "............");
        DUE.is("best(0, 1, 2)", x.best(0, 1, 2), 2);
        DUE.is("best(8, 11, 2)", x.best(8, 11, 2), 6);
        DUE.is("best(4, 4, 2)", x.best(4, 4, 2), 7);
        DUE.plan("best", x, "00..0...0010");
    }

    private static void refusals() {
        PlaySeason x = Due.withPlan("t00al5", "0....0......");
        long ahead = x.digest();
        int wildest = Integer.MAX_VALUE;
        for (int[] span : new int[][] {{-1, 0}, {0, 12}, {12, 12}, {3, 2}, {11, 0}, {Integer.MIN_VALUE, wildest}, {0, wildest}}) {
            DUE.is("best, span", x.best(span[0], span[1], 0), PlaySeason.UNKNOWN);
            DUE.is("best, span and what", x.best(span[0], span[1], 3), PlaySeason.UNKNOWN);
        }
        for (int what : new int[] {-1, 3, Integer.MIN_VALUE, wildest}) {
            DUE.is("best, what", x.best(0, 0, what), PlaySeason.OUTSIDE);
            DUE.is("best, what and dark nights", x.best(0, 11, what), PlaySeason.OUTSIDE);
        }
        DUE.is("best, five dark nights", x.best(0, 6, 0), PlaySeason.STATE);
        DUE.is("best, five dark nights", x.best(6, 10, 2), PlaySeason.STATE);
        DUE.unchanged("best", x, ahead);
        DUE.is("best, four dark nights", x.best(0, 5, 0) >= 0 ? 1 : 0, 1);
        DUE.is("count(9)", x.count(9), 1);
    }

    private static void told() {
        PlaySeason x = Due.withHouse("t00al5");
        x.image();
        for (int told = 1; told <= 4; told++) {
            DUE.is("best, told", x.best(0, 0, told % 3) >= 0 ? 1 : 0, 1);
            DUE.is("count(9)", x.count(9), told);
        }
        x.restore();
        DUE.is("count(9), restored", x.count(9), 4);
        Due.type(x, "t00al5");
        x.house();
        DUE.is("count(9), another house", x.count(9), 4);
        for (int told = 5; told <= 8; told++) {
            DUE.is("best(0, 4, 0)", x.best(0, 4, 0), PlaySeason.STATE);
            DUE.is("best, told", x.best(0, 0, 0) >= 0 ? 1 : 0, 1);
        }
        DUE.is("best, told the ninth time", x.best(0, 0, 0), PlaySeason.STATE);
        DUE.is("best, told the ninth time, what", x.best(0, 0, 3), PlaySeason.OUTSIDE);
        DUE.is("best, told the ninth time, span", x.best(1, 0, 0), PlaySeason.UNKNOWN);
        DUE.is("count(9)", x.count(9), 8);
    }
}
