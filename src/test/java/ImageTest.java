/** Promises 20 and 21: image, restore. */
public final class ImageTest {
    private static final Due DUE = new Due();
    private static final String HOUSE = "t00al9,g11bk3";
    private static final String PLAN = "0.1.0.1..00.";

    public static void main(String[] args) {
        goesOn();
        latest();
        gone();
        pageAndTalliesStay();
        DUE.end();
    }

    private static void goesOn() {
        PlaySeason x = Due.withPlan(HOUSE, PLAN);
        x.see(0, 1, true);
        x.see(1, 3, false);
        DUE.is("restore() with none", x.restore(), PlaySeason.STATE);
        long ahead = x.digest();
        DUE.is("image()", x.image(), 2);
        DUE.is("digest()", x.digest(), ahead);
        x.rights(0, 3, 4);
        x.be(1, 4);
        x.add(3, 1, 1);
        x.rights(2, 3, 4);
        x.play(0, 2);
        x.delay(2);
        x.forget();
        x.see(2, 0, true);
        DUE.is("count(0)", x.count(0), 3);
        DUE.is("restore()", x.restore(), 2);
        DUE.is("digest(), restored", x.digest(), ahead);
        DUE.is("title(2, 0), restored", x.title(2, 0), PlaySeason.UNKNOWN);
        x.play(11, 1);
        x.be(0, 1);
        DUE.is("restore() again", x.restore(), 2);
        DUE.is("digest(), restored again", x.digest(), ahead);
        DUE.is("add(4, 3, 2), restored", x.add(4, 3, 2), 2);
        DUE.is("title(2, 3), restored", x.title(2, 3), 0);
        DUE.is("title(2, 4), restored", x.title(2, 4), 11);
        DUE.is("title(2, 6), restored", x.title(2, 6), 0);
        DUE.is("title(2, 7), restored", x.title(2, 7), 31);
    }

    private static void latest() {
        PlaySeason x = Due.withPlan(HOUSE, PLAN);
        x.image();
        x.add(0, 0, 0);
        x.play(1, 2);
        long ahead = x.digest();
        DUE.is("image(), another", x.image(), 3);
        x.play(1, PlaySeason.NONE);
        DUE.is("restore()", x.restore(), 3);
        DUE.is("digest(), the latest", x.digest(), ahead);
    }

    private static void gone() {
        PlaySeason x = Due.withPlan(HOUSE, PLAN);
        x.image();
        Due.type(x, "t00");
        x.house();
        DUE.is("restore(), house() was refused", x.restore(), 2);
        x.blank();
        Due.type(x, HOUSE);
        DUE.is("house() of the same text", x.house(), 2);
        long ahead = x.digest();
        DUE.is("restore(), a house was read", x.restore(), PlaySeason.STATE);
        DUE.unchanged("restore", x, ahead);
        DUE.is("image() anew", x.image(), 2);
        DUE.is("restore() anew", x.restore(), 2);
    }

    private static void pageAndTalliesStay() {
        PlaySeason x = Due.withPlan(HOUSE, PLAN);
        Due.type(x, "ab");
        x.image();
        Due.type(x, "c");
        x.best(0, 1, 2);
        x.restore();
        DUE.plan("restore", x, PLAN);
        DUE.is("count(7)", x.count(7), 3);
        DUE.is("count(8)", x.count(8), 1);
        DUE.is("count(9)", x.count(9), 1);
    }
}
