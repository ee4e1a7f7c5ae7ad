/** Which of several refusals is answered, by each call; and that none of all refusals changes anything. */
public final class RefusalsTest {
    private static final Bounds B = new Bounds();
    private static final int UNKNOWN = PlaySeason.UNKNOWN;
    private static final int OUTSIDE = PlaySeason.OUTSIDE;
    private static final int STATE = PlaySeason.STATE;
    private static final int FULL = PlaySeason.FULL;
    private static final int[] WILD = {Integer.MIN_VALUE, -2, -1, 12, 126, Integer.MAX_VALUE};

    public static void main(String[] args) {
        B.sentence("terms.32", "Refusals, of several the first as told by each call", RefusalsTest::ofSeveralTheFirst);
        B.sentence("terms.33", "UNKNOWN (a number names nothing), OUTSIDE (it is not as told), STATE (as told), FULL",
            RefusalsTest::answers);
        B.sentence("terms.34", "FULL; they change nothing.", RefusalsTest::changeNothing);
        B.end();
    }

    private static void ofSeveralTheFirst() {
        ofHouseCalls();
        ofTitleCalls();
        ofPlanCalls();
    }

    private static void ofHouseCalls() {
        for (int code : new int[] {Integer.MIN_VALUE, -1, 0, 31, 127, Integer.MAX_VALUE}) {
            B.refused("letter(" + code + ") and full", OUTSIDE, Bounds::full, x -> x.letter(code));
        }
        for (int by : new int[] {Integer.MIN_VALUE, -1, 0, 12, Integer.MAX_VALUE}) {
            B.refused("delay(" + by + ") and no HOUSE", OUTSIDE, Bounds::bare, x -> x.delay(by));
        }
        for (int wild : WILD) {
            B.refused("add, kind " + wild + " and no HOUSE", OUTSIDE, Bounds::bare, x -> x.add(wild, 0, 0));
            B.refused("add, set " + wild + " and no HOUSE", OUTSIDE, Bounds::bare, x -> x.add(0, wild, 0));
            B.refused("add, cast " + wild + " and no HOUSE", OUTSIDE, Bounds::bare, x -> x.add(0, 0, wild));
            B.refused("add, kind " + wild + " and full", OUTSIDE, Bounds::full, x -> x.add(wild, 0, 0));
            B.refused("add, set " + wild + " and full", OUTSIDE, Bounds::full, x -> x.add(0, wild, 0));
            B.refused("add, cast " + wild + " and full", OUTSIDE, Bounds::full, x -> x.add(0, 0, wild));
            B.refused("drawn, what " + wild + " and no HOUSE", OUTSIDE, Bounds::bare, x -> x.drawn(1, 0, wild));
        }
        B.refused("drawn, times 0 and no HOUSE", OUTSIDE, Bounds::bare, x -> x.drawn(0, 0, 0));
        B.refused("drawn, times 21 and no HOUSE", OUTSIDE, Bounds::bare, x -> x.drawn(21, 0, 0));
        B.refused("drawn, seed -1 and no HOUSE", OUTSIDE, Bounds::bare, x -> x.drawn(1, -1, 0));
    }

    /** A title that there is not, and another number that is not as told, and full. */
    private static void ofTitleCalls() {
        for (Bounds.Scene scene : Bounds.SCENES) {
            for (int wild : WILD) {
                for (int what : WILD) {
                    String two = "(" + wild + ", " + what + ")";
                    B.refused("title" + two, UNKNOWN, scene, x -> x.title(wild, what));
                    B.refused("as" + two, UNKNOWN, scene, x -> x.as(wild, what));
                    B.refused("be" + two, UNKNOWN, scene, x -> x.be(wild, what));
                    B.refused("see" + two, UNKNOWN, scene, x -> x.see(wild, what, true));
                    B.refused("rights" + two, UNKNOWN, scene, x -> x.rights(wild, what, 11));
                    B.refused("rights" + two, UNKNOWN, scene, x -> x.rights(wild, 0, what));
                }
                B.refused("rights(" + wild + ", 1, 0)", UNKNOWN, scene, x -> x.rights(wild, 1, 0));
            }
        }
        for (int wild : WILD) {
            B.refused("see(0, " + wild + ", true) and full", OUTSIDE, Bounds::full, x -> x.see(0, wild, true));
            B.refused("see(" + wild + ", 0, true) and full", UNKNOWN, Bounds::full, x -> x.see(wild, 0, true));
        }
    }

    /** A night that there is not and another number, in each scene; five dark nights, or told eight times, and those. */
    private static void ofPlanCalls() {
        for (int wild : WILD) {
            for (int what : WILD) {
                String two = "(" + wild + ", " + what + ")";
                B.refused("night" + two, UNKNOWN, Bounds.SCENES, x -> x.night(wild, what));
                B.refused("best(.., 11, ..) " + two, UNKNOWN, Bounds.SCENES, x -> x.best(wild, 11, what));
                B.refused("best(0, .., ..) " + two, UNKNOWN, Bounds.SCENES, x -> x.best(0, wild, what));
            }
            B.refused("night(0, " + wild + "), no HOUSE", UNKNOWN, Bounds::bare, x -> x.night(0, wild));
            B.refused("best(0, 0, " + wild + "), no HOUSE", UNKNOWN, Bounds::bare, x -> x.best(0, 0, wild));
            B.refused("best(1, 0, " + wild + ")", UNKNOWN, Bounds.SCENES, x -> x.best(1, 0, wild));
            B.refused("best(0, 11, " + wild + "), five are dark", OUTSIDE, Bounds::one, x -> x.best(0, 11, wild));
            B.refused("best(0, 0, " + wild + "), told eight times", OUTSIDE, Bounds::full, x -> x.best(0, 0, wild));
        }
        B.refused("best(1, 0, 0), told eight times", UNKNOWN, Bounds::full, x -> x.best(1, 0, 0));
        B.refused("best(0, 12, 0), five are dark", UNKNOWN, Bounds::one, x -> x.best(0, 12, 0));
    }

    private static void answers() {
        B.is("UNKNOWN", UNKNOWN, -101);
        B.is("OUTSIDE", OUTSIDE, -102);
        B.is("STATE", STATE, -103);
        B.is("FULL", FULL, -104);
        B.is("NONE", PlaySeason.NONE, -1);
        B.is("title(1, 0)", Bounds.one().title(1, 0), -101);
        B.is("title(0, 9)", Bounds.one().title(0, 9), -102);
        B.is("house()", Bounds.one().house(), -103);
        B.is("add(0, 0, 0)", Bounds.full().add(0, 0, 0), -104);
        B.is("night(0, 0)", Bounds.one().night(0, 0), -1);
    }

    /** All refusals of all calls, one behind another on one object. */
    private static void changeNothing() {
        for (int scene = 0; scene < Bounds.SCENES.length; scene++) {
            PlaySeason x = Bounds.SCENES[scene].make();
            int titles = x.count(0);
            B.is("letter(31)", x.letter(31), OUTSIDE);
            B.is("letter(127)", x.letter(127), OUTSIDE);
            B.is("house()", x.house(), STATE);
            B.is("plan()", x.plan(), STATE);
            B.is("title(-1, 0)", x.title(-1, 0), UNKNOWN);
            B.is("as(-1, 0)", x.as(-1, 0), UNKNOWN);
            B.is("night(12, 0)", x.night(12, 0), UNKNOWN);
            B.is("play(12, 0)", x.play(12, 0), UNKNOWN);
            B.is("play(0, of none)", x.play(0, titles), UNKNOWN);
            B.is("delay(12)", x.delay(12), OUTSIDE);
            B.is("add(5, 0, 0)", x.add(5, 0, 0), OUTSIDE);
            B.is("rights(of none, 0, 11)", x.rights(titles, 0, 11), UNKNOWN);
            B.is("be(of none, 0)", x.be(titles, 0), UNKNOWN);
            B.is("best(1, 0, 2)", x.best(1, 0, 2), UNKNOWN);
            B.is("rank(of none)", x.rank(titles), UNKNOWN);
            B.is("see(of none, 0, true)", x.see(titles, 0, true), UNKNOWN);
            B.is("drawn(21, 0, 0)", x.drawn(21, 0, 0), OUTSIDE);
            B.is("count(10)", x.count(10), OUTSIDE);
            B.alike("scene " + scene + ", all refusals", x, Bounds.SCENES[scene].make());
        }
        withNoHouse();
        whenFull();
    }

    private static void withNoHouse() {
        PlaySeason x = Bounds.bare();
        B.is("delay(1)", x.delay(1), STATE);
        B.is("add(0, 0, 0)", x.add(0, 0, 0), STATE);
        B.is("drawn(1, 0, 0)", x.drawn(1, 0, 0), STATE);
        B.is("image()", x.image(), STATE);
        B.is("restore()", x.restore(), STATE);
        B.alike("no HOUSE, all refusals", x, Bounds.bare());
    }

    private static void whenFull() {
        PlaySeason x = Bounds.full();
        B.is("letter(65)", x.letter(65), FULL);
        B.is("add(0, 0, 0)", x.add(0, 0, 0), FULL);
        B.is("see(0, 0, true)", x.see(0, 0, true), FULL);
        B.is("best(0, 0, 2)", x.best(0, 0, 2), STATE);
        B.alike("full, all refusals", x, Bounds.full());
    }
}
