/** Promises 22 and 23: count, digest. */
public final class CountTest {
    private static final Due DUE = new Due();

    public static void main(String[] args) {
        counts();
        digests();
        DUE.end();
    }

    private static void counts() {
        PlaySeason x = Due.withPlan("t00al9,g11bk3,r02al5", "0.00.1.1...2");
        x.see(0, 0, true);
        x.see(1, 0, true);
        Due.type(x, "ab,");
        x.best(1, 1, 1);
        x.best(2, 2, 1);
        // night 7: the gala was on; night 11: the row is alone
        int[] want = {3, 6, 2, 8, 900 + 630 + 441 + 450, 3, 2, 3, 1, 2};
        for (int what = 0; what < want.length; what++) {
            DUE.is("count(" + what + ")", x.count(what), want[what]);
        }
        x.play(11, PlaySeason.NONE);
        DUE.is("count(5)", x.count(5), 2);
        for (int wild : new int[] {-1, 10, Integer.MIN_VALUE, Integer.MAX_VALUE}) {
            DUE.is("count(" + wild + ")", x.count(wild), PlaySeason.OUTSIDE);
        }
    }

    private static void digests() {
        PlaySeason x = new PlaySeason();
        DUE.is("digest(), new", x.digest(), asTold(x, ""));
        Due.type(x, " ~");
        DUE.is("digest(), letters", x.digest(), asTold(x, " ~"));
        x.blank();
        Due.type(x, "f00al9,g11bk3,r02al5");
        x.house();
        DUE.is("digest(), house", x.digest(), asTold(x, ""));
        Due.replan(x, "2.10.11..000");
        x.see(1, 1, false);
        Due.type(x, "zyx");
        x.best(0, 2, 0);
        DUE.is("digest(), plan", x.digest(), asTold(x, "zyx"));
    }

    private static long asTold(PlaySeason x, String page) {
        long h = 1459;
        for (int title = 0; title < x.count(0); title++) {
            for (int what = 0; what <= 8; what++) {
                h = 31 * h + x.title(title, what);
            }
        }
        for (int night = 0; night < 12 && x.count(0) > 0; night++) {
            for (int what = 0; what <= 2; what++) {
                h = 31 * h + x.night(night, what);
            }
        }
        for (int place = 0; place < x.count(0); place++) {
            h = 31 * h + x.rank(place);
        }
        for (int i = 0; i < page.length(); i++) {
            h = 31 * h + page.charAt(i);
        }
        for (int what = 0; what <= 9; what++) {
            h = 31 * h + x.count(what);
        }
        return h;
    }
}
