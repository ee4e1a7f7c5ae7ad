/** Promise 1: a new object has no HOUSE; what every call answers then. */
public final class NewObjectTest {
    public static void main(String[] args) {
        Due due = new Due();
        PlaySeason x = new PlaySeason();
        int[] counts = {0, 0, 0, 12, 0, 0, 0, 0, 0, 0};
        long h = 1459;
        for (int what = 0; what < counts.length; what++) {
            due.is("count(" + what + ")", x.count(what), counts[what]);
            h = 31 * h + counts[what];
        }
        due.is("digest()", x.digest(), h);
        due.is("fault()", x.fault(), 0);
        due.is("blank()", x.blank(), 0);
        due.is("house()", x.house(), PlaySeason.STATE);
        due.is("plan()", x.plan(), PlaySeason.STATE);
        due.is("title(0, 0)", x.title(0, 0), PlaySeason.UNKNOWN);
        due.is("title(0, 9)", x.title(0, 9), PlaySeason.UNKNOWN);
        due.is("as(0, 0)", x.as(0, 0), PlaySeason.UNKNOWN);
        due.is("as(0, 9)", x.as(0, 9), PlaySeason.UNKNOWN);
        due.is("night(0, 0)", x.night(0, 0), PlaySeason.UNKNOWN);
        due.is("night(0, 3)", x.night(0, 3), PlaySeason.UNKNOWN);
        due.is("play(0, -1)", x.play(0, PlaySeason.NONE), PlaySeason.UNKNOWN);
        due.is("play(0, 0)", x.play(0, 0), PlaySeason.UNKNOWN);
        due.is("delay(0)", x.delay(0), PlaySeason.OUTSIDE);
        due.is("delay(1)", x.delay(1), PlaySeason.STATE);
        due.is("add(5, 0, 0)", x.add(5, 0, 0), PlaySeason.OUTSIDE);
        due.is("add(0, 0, 0)", x.add(0, 0, 0), PlaySeason.STATE);
        due.is("rights(0, 0, 0)", x.rights(0, 0, 0), PlaySeason.UNKNOWN);
        due.is("rights(0, 2, 1)", x.rights(0, 2, 1), PlaySeason.UNKNOWN);
        due.is("be(0, 0)", x.be(0, 0), PlaySeason.UNKNOWN);
        due.is("be(0, 5)", x.be(0, 5), PlaySeason.UNKNOWN);
        due.is("best(0, 0, 0)", x.best(0, 0, 0), PlaySeason.UNKNOWN);
        due.is("best(0, 0, 3)", x.best(0, 0, 3), PlaySeason.UNKNOWN);
        due.is("rank(0)", x.rank(0), PlaySeason.UNKNOWN);
        due.is("see(0, 0, true)", x.see(0, 0, true), PlaySeason.UNKNOWN);
        due.is("see(0, 4, true)", x.see(0, 4, true), PlaySeason.UNKNOWN);
        due.is("forget()", x.forget(), 0);
        due.is("drawn(0, 0, 0)", x.drawn(0, 0, 0), PlaySeason.OUTSIDE);
        due.is("drawn(1, 0, 0)", x.drawn(1, 0, 0), PlaySeason.STATE);
        due.is("image()", x.image(), PlaySeason.STATE);
        due.is("restore()", x.restore(), PlaySeason.STATE);
        due.is("digest() behind all refusals", x.digest(), h);
        due.end();
    }
}
