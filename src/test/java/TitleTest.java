/** Promises 7, 8, 12, 13 and 14: title, as, add, rights, be. */
public final class TitleTest {
    private static final Due DUE = new Due();
    private static final String ALL_KINDS = "t01ab1,g12cd3,f23ef5,r34gh7,d40il9";
    private static final int[] WILD = {-1, 5, -2, Integer.MIN_VALUE, Integer.MAX_VALUE};

    public static void main(String[] args) {
        told();
        taken();
        added();
        rights();
        kinds();
        DUE.end();
    }

    private static void told() {
        PlaySeason x = Due.withPlan(ALL_KINDS, "0000.1.22..4");
        int[][] want = {
            {0, 0, 1, 0, 1, 1, 4}, {1, 1, 2, 2, 3, 3, 1}, {2, 2, 3, 4, 5, 5, 2}, {3, 3, 4, 6, 7, 7, 0}, {4, 4, 0, 8, 11, 9, 1}};
        for (int title = 0; title < 5; title++) {
            for (int what = 0; what < 7; what++) {
                DUE.is("title(" + title + ", " + what + ")", x.title(title, what), want[title][what]);
            }
            DUE.is("title(" + title + ", 7)", x.title(title, 7), 31);
            DUE.is("title(" + title + ", 8)", x.title(title, 8), 0);
            DUE.is("title(" + title + ", 9)", x.title(title, 9), PlaySeason.OUTSIDE);
            DUE.is("title(" + title + ", -1)", x.title(title, -1), PlaySeason.OUTSIDE);
        }
        for (int title : WILD) {
            DUE.is("title(" + title + ", 0)", x.title(title, 0), PlaySeason.UNKNOWN);
            DUE.is("title(" + title + ", 9)", x.title(title, 9), PlaySeason.UNKNOWN);
            DUE.is("title(0, " + (title | 16) + ")", x.title(0, title | 16), PlaySeason.OUTSIDE);
        }
    }

    private static void taken() {
        PlaySeason x = Due.withHouse(ALL_KINDS);
        String[] isSo = {"10000", "11000", "11100", "10010", "10001"};
        for (int title = 0; title < 5; title++) {
            for (int kind = 0; kind < 5; kind++) {
                int want = isSo[title].charAt(kind) == '1' ? title : PlaySeason.NONE;
                DUE.is("as(" + title + ", " + kind + ")", x.as(title, kind), want);
            }
        }
        for (int wild : WILD) {
            DUE.is("as(" + wild + ", 0)", x.as(wild, 0), PlaySeason.UNKNOWN);
            DUE.is("as(" + wild + ", 5)", x.as(wild, 5), PlaySeason.UNKNOWN);
            DUE.is("as(0, " + wild + ")", x.as(0, wild), PlaySeason.OUTSIDE);
        }
    }

    private static void added() {
        PlaySeason x = Due.withPlan("t00al9", "0..0........");
        for (int number = 1; number < 5; number++) {
            DUE.is("add", x.add(number, 4 - number, number), number);
            int[] want = {number, 4 - number, number, 0, 11, 5, 0};
            for (int what = 0; what < want.length; what++) {
                DUE.is("add, title(" + number + ", " + what + ")", x.title(number, what), want[what]);
            }
            DUE.is("add, count(0)", x.count(0), number + 1);
        }
        DUE.plan("add", x, "0..0........");
        long ahead = x.digest();
        DUE.is("add, the sixth", x.add(0, 0, 0), PlaySeason.FULL);
        for (int wild : WILD) {
            DUE.is("add(" + wild + ", 0, 0)", x.add(wild, 0, 0), PlaySeason.OUTSIDE);
            DUE.is("add(0, " + wild + ", 0)", x.add(0, wild, 0), PlaySeason.OUTSIDE);
            DUE.is("add(0, 0, " + wild + ")", x.add(0, 0, wild), PlaySeason.OUTSIDE);
        }
        DUE.unchanged("add", x, ahead);
        DUE.is("add(4, 4, 4)", Due.withHouse("t00al9").add(4, 4, 4), 1);
    }

    private static void rights() {
        PlaySeason x = Due.withPlan("t00al9,g11al9", "0.0.0.1.....");
        DUE.is("rights(0, 1, 3)", x.rights(0, 1, 3), 2);
        DUE.is("title(0, 3)", x.title(0, 3), 1);
        DUE.is("title(0, 4)", x.title(0, 4), 3);
        DUE.is("night(0, 1)", x.night(0, 1), 1);
        DUE.is("night(2, 1)", x.night(2, 1), 0);
        DUE.is("night(4, 1)", x.night(4, 1), 1);
        DUE.is("rights(1, 11, 11)", x.rights(1, 11, 11), 3);
        DUE.is("rights(0, 0, 4)", x.rights(0, 0, 4), 1);
        DUE.is("rights(0, 2, 2)", x.rights(0, 2, 2), 3);
        long ahead = x.digest();
        for (int wild : new int[] {-1, 2, Integer.MIN_VALUE, Integer.MAX_VALUE}) {
            DUE.is("rights(" + wild + ", 0, 0)", x.rights(wild, 0, 0), PlaySeason.UNKNOWN);
            DUE.is("rights(" + wild + ", 1, 0)", x.rights(wild, 1, 0), PlaySeason.UNKNOWN);
        }
        for (int[] wild : new int[][] {{-1, 0}, {0, 12}, {12, 12}, {3, 2}, {11, 0}, {-2, -1}, {0, Integer.MAX_VALUE}}) {
            DUE.is("rights(0, " + wild[0] + ", " + wild[1] + ")", x.rights(0, wild[0], wild[1]), PlaySeason.OUTSIDE);
        }
        DUE.unchanged("rights", x, ahead);
    }

    private static void kinds() {
        PlaySeason x = Due.withPlan("t00al8", "0.0.........");
        DUE.is("be(0, 3)", x.be(0, 3), 0);
        DUE.is("be(0, 3), count(2)", x.count(2), 2);
        DUE.is("be(0, 1)", x.be(0, 1), 3);
        DUE.is("be(0, 1), night(2, 1)", x.night(2, 1), 4);
        DUE.is("be(0, 1), night(0, 2)", x.night(0, 2), 1200);
        DUE.is("be(0, 2)", x.be(0, 2), 1);
        DUE.is("be(0, 2), night(0, 1)", x.night(0, 1), 5);
        DUE.is("be(0, 4)", x.be(0, 4), 2);
        DUE.is("be(0, 4) again", x.be(0, 4), 4);
        DUE.is("be(0, 4), title(0, 0)", x.title(0, 0), 4);
        DUE.is("be(0, 4), count(4)", x.count(4), 1360);
        long ahead = x.digest();
        for (int wild : WILD) {
            DUE.is("be(" + wild + ", 0)", x.be(wild, 0), PlaySeason.UNKNOWN);
            DUE.is("be(" + wild + ", 5)", x.be(wild, 5), PlaySeason.UNKNOWN);
            DUE.is("be(0, " + wild + ")", x.be(0, wild), PlaySeason.OUTSIDE);
        }
        DUE.is("be(1, 0)", x.be(1, 0), PlaySeason.UNKNOWN);
        DUE.unchanged("be", x, ahead);
    }
}
