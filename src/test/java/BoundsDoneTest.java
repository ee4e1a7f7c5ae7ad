/** Boundary cases of promises 10 to 15: play, delay, add, rights, be, best. */
public final class BoundsDoneTest {
    private static final Bounds B = new Bounds();
    private static final String FIVE = "t00al1,t01al2,t02al3,t03al4,t04al5";

    public static void main(String[] args) {
        plans();
        titles();
        best();
        B.end();
    }

    private static void plans() {
        B.sentence("10.1", "A NIGHT has a TITLE, or is dark (NONE): how many NIGHTS BREAK then.", BoundsDoneTest::plays);
        B.sentence("10.2", "UNKNOWN: night (0 to 11), title (NONE, or one that there is), or there is no HOUSE.",
            BoundsDoneTest::playsNot);
        B.sentence("11.1", "All NIGHTS are one later (so many times; those that would be behind the last one are gone, the first"
            + " ones are dark): how many NIGHTS have a TITLE.", BoundsDoneTest::delays);
        B.sentence("11.2", "OUTSIDE: by (1 to 11); STATE: no HOUSE.", BoundsDoneTest::delaysNot);
    }

    private static void titles() {
        B.sentence("12.1", "A TITLE comes behind all others, of FILL 5, with rights to all NIGHTS: its number.",
            BoundsDoneTest::adds);
        B.sentence("12.2", "OUTSIDE: kind (0 to 4), set, cast (0 to 4); STATE: no HOUSE", BoundsDoneTest::addsNot);
        B.sentence("12.3", "FULL: there are five.", BoundsDoneTest::five);
        B.sentence("13.1", "A TITLE has other rights: how many NIGHTS BREAK then.", BoundsDoneTest::rights);
        B.sentence("13.2", "UNKNOWN; OUTSIDE: first, last (0 to 11, last not ahead of first).", BoundsDoneTest::rightsNot);
        B.sentence("14.1", "A TITLE is of another KIND: of which it was.", BoundsDoneTest::kinds);
        B.sentence("14.2", "UNKNOWN; OUTSIDE: kind (0 to 4).", BoundsDoneTest::kindsNot);
    }

    private static void best() {
        B.sentence("15.1", "What = 0 LOST, 1 EARNED of the PLAN that is BEST from one NIGHT on up to another one (also it)",
            BoundsDoneTest::spans);
        B.sentence("15.2", "2: the PLAN becomes that: how many NIGHTS have a TITLE.", BoundsDoneTest::becomes);
        B.sentence("15.3", "UNKNOWN: first, last (0 to 11, last not ahead of first), or there is no HOUSE", BoundsDoneTest::noSpan);
        B.sentence("15.4", "or there is no HOUSE; OUTSIDE: what; STATE", BoundsDoneTest::noWhat);
        B.sentence("15.5", "STATE: more than four dark NIGHTS there", BoundsDoneTest::fiveDark);
        B.sentence("15.6", "or best() was told 8 times ever (whatever the HOUSE, restored or not; refusals do not count).",
            BoundsDoneTest::eightTimes);
    }

    // ---- promises 10 and 11

    private static void plays() {
        // each night by its own rights breaks: from none to all twelve, and back
        PlaySeason x = Due.withHouse("t00ll1,t01aa1,t02al1");
        for (int night = 0; night < 12; night++) {
            int own = night == 11 ? 1 : 0;
            B.is("play(" + night + ", " + own + ")", x.play(night, own), night + 1);
            B.is("night(" + night + ", 0)", x.night(night, 0), own);
        }
        for (int night = 0; night < 12; night++) {
            B.is("play(" + night + ", -1)", x.play(night, PlaySeason.NONE), 11 - night);
            B.is("night(" + night + ", 0)", x.night(night, 0), PlaySeason.NONE);
        }
        // a night that has one has another one then; the same one again changes nothing
        B.is("play(11, 2)", x.play(11, 2), 0);
        B.is("play(11, 0)", x.play(11, 0), 0);
        B.is("play(11, 0) again", x.play(11, 0), 0);
        B.planIs("play", x, "...........0");
        B.is("play(0, -1), dark as it is", x.play(0, PlaySeason.NONE), 0);
        B.is("count(1)", x.count(1), 1);
        PlaySeason y = Due.withHouse(FIVE);
        for (int title = 0; title < 5; title++) {
            B.is("play(0, " + title + ")", y.play(0, title), 0);
            B.is("night(0, 0)", y.night(0, 0), title);
            B.is("night(0, 2)", y.night(0, 2), 100 * (title + 1));
        }
    }

    private static void playsNot() {
        for (int title : new int[] {PlaySeason.NONE, 0}) {
            for (int night : new int[] {0, 11, -1, 12}) {
                B.refused("play(" + night + ", " + title + "), no HOUSE", PlaySeason.UNKNOWN, Bounds::bare, x -> x.play(night, title));
            }
            for (int wild : Bounds.outside(0, 11)) {
                B.refused("play(" + wild + ", " + title + ")", PlaySeason.UNKNOWN, Bounds.WITH_HOUSE, x -> x.play(wild, title));
            }
        }
        for (int scene = 0; scene < 3; scene++) {
            for (int wild : Bounds.outside(PlaySeason.NONE, Bounds.TITLES[scene] - 1)) {
                B.refused("play(0, " + wild + ")", PlaySeason.UNKNOWN, Bounds.WITH_HOUSE[scene], x -> x.play(0, wild));
                B.refused("play(11, " + wild + ")", PlaySeason.UNKNOWN, Bounds.WITH_HOUSE[scene], x -> x.play(11, wild));
            }
            for (int title = PlaySeason.NONE; title < Bounds.TITLES[scene]; title++) {
                B.so("play(0, " + title + ") is done", Bounds.WITH_HOUSE[scene].make().play(0, title) >= 0);
                B.so("play(11, " + title + ") is done", Bounds.WITH_HOUSE[scene].make().play(11, title) >= 0);
            }
        }
    }

    private static void delays() {
        for (String plan : new String[] {"012340123401", "............", "0...........", "...........4", "0..........4"}) {
            for (int by = 1; by <= 11; by++) {
                String want = ".".repeat(by) + plan.substring(0, 12 - by);
                PlaySeason x = Due.withPlan(FIVE, plan);
                PlaySeason oneByOne = Due.withPlan(FIVE, plan);
                int lit = want.replace(".", "").length();
                B.is(plan + " delay(" + by + ")", x.delay(by), lit);
                B.planIs(plan + " delay(" + by + ")", x, want);
                for (int time = 0; time < by; time++) {
                    oneByOne.delay(1);
                }
                B.is(plan + " delay(" + by + "), one by one", x.digest(), oneByOne.digest());
                B.is(plan + " delay(" + by + "), as that plan put", x.digest(), Due.withPlan(FIVE, want).digest());
            }
        }
        // rights stay where they are; a night that breaks has a title all the same
        PlaySeason x = Due.withPlan("t00aa1", "0...........");
        B.is("delay(1)", x.delay(1), 1);
        B.is("night(1, 1)", x.night(1, 1), 1);
    }

    private static void delaysNot() {
        for (int wild : Bounds.outside(1, 11)) {
            B.refused("delay(" + wild + ")", PlaySeason.OUTSIDE, Bounds.SCENES, x -> x.delay(wild));
        }
        for (int by = 1; by <= 11; by++) {
            int own = by;
            B.refused("delay(" + by + "), no HOUSE", PlaySeason.STATE, Bounds::bare, x -> x.delay(own));
        }
    }

    // ---- promises 12 to 14

    private static void adds() {
        for (int kind = 0; kind < 5; kind++) {
            for (int set = 0; set < 5; set++) {
                for (int cast = 0; cast < 5; cast++) {
                    PlaySeason x = Due.withHouse("g32cd1");
                    B.is("add(" + kind + ", " + set + ", " + cast + ")", x.add(kind, set, cast), 1);
                    int[] want = {kind, set, cast, 0, 11, 5, 0, 31, 0};
                    for (int what = 0; what < want.length; what++) {
                        B.is("title(1, " + what + ")", x.title(1, what), want[what]);
                    }
                }
            }
        }
        // whatever another HOUSE had at that number
        PlaySeason again = Due.withHouse("f44ff9,f44ff9,f44ff9,f44ff9,f44ff9");
        Due.type(again, "g32cd1");
        again.house();
        for (int number = 1; number < 5; number++) {
            B.is("add(0, 1, 2)", again.add(0, 1, 2), number);
            int[] want = {0, 1, 2, 0, 11, 5, 0, 31, 0};
            for (int what = 0; what < want.length; what++) {
                B.is("another HOUSE, title(" + number + ", " + what + ")", again.title(number, what), want[what]);
            }
        }
        // on the first night and on the last one it has rights, and 500 seats
        PlaySeason x = Due.withHouse("g32cd1");
        x.add(0, 0, 0);
        B.is("play(0, 1)", x.play(0, 1), 0);
        B.is("play(11, 1)", x.play(11, 1), 0);
        B.is("count(4)", x.count(4), 500 + 350);
    }

    private static void addsNot() {
        for (int wild : Bounds.outside(0, 4)) {
            B.refused("add(" + wild + ", 0, 0)", PlaySeason.OUTSIDE, Bounds.SCENES, x -> x.add(wild, 0, 0));
            B.refused("add(0, " + wild + ", 0)", PlaySeason.OUTSIDE, Bounds.SCENES, x -> x.add(0, wild, 0));
            B.refused("add(0, 0, " + wild + ")", PlaySeason.OUTSIDE, Bounds.SCENES, x -> x.add(0, 0, wild));
            B.refused("add(4, 4, " + wild + ")", PlaySeason.OUTSIDE, Bounds.SCENES, x -> x.add(4, 4, wild));
        }
        B.refused("add(0, 0, 0), no HOUSE", PlaySeason.STATE, Bounds::bare, x -> x.add(0, 0, 0));
        B.refused("add(4, 4, 4), no HOUSE", PlaySeason.STATE, Bounds::bare, x -> x.add(4, 4, 4));
    }

    private static void five() {
        PlaySeason x = Due.withHouse("t00al1");
        for (int number = 1; number < 5; number++) {
            B.is("add, of " + number, x.add(0, 0, 0), number);
            B.is("count(0)", x.count(0), number + 1);
        }
        B.is("add, of five", x.add(0, 0, 0), PlaySeason.FULL);
        B.is("count(0)", x.count(0), 5);
        B.is("title(5, 0)", x.title(5, 0), PlaySeason.UNKNOWN);
        for (int number = 0; number < 5; number++) {
            int own = number;
            B.refused("add, of five", PlaySeason.FULL, Bounds::full, y -> y.add(own, own, own));
        }
        // five that were read, and five of which some were added and are gone again
        B.is("add, of five read", Due.withHouse(FIVE).add(0, 0, 0), PlaySeason.FULL);
        PlaySeason y = Due.withHouse("t00al1,t00al1,t00al1,t00al1");
        y.image();
        B.is("add, of four", y.add(0, 0, 0), 4);
        B.is("add, of five", y.add(0, 0, 0), PlaySeason.FULL);
        y.restore();
        B.is("add, restored", y.add(1, 1, 1), 4);
    }

    private static void rights() {
        for (int first = 0; first < 12; first++) {
            for (int last = first; last < 12; last++) {
                PlaySeason x = Due.withPlan("t00al1,t01al1", "01010101010.");
                int broken = 0;
                for (int night = 0; night < 12; night += 2) {
                    broken += night < first || night > last ? 1 : 0;
                }
                B.is("rights(0, " + first + ", " + last + ")", x.rights(0, first, last), broken);
                B.is("title(0, 3)", x.title(0, 3), first);
                B.is("title(0, 4)", x.title(0, 4), last);
                B.is("title(1, 3)", x.title(1, 3), 0);
                B.is("title(1, 4)", x.title(1, 4), 11);
                B.is("rights(0, 0, 11)", x.rights(0, 0, 11), 0);
            }
        }
        PlaySeason x = Due.withPlan("t00al1", "000000000000");
        B.is("rights(0, 11, 11), all break", x.rights(0, 11, 11), 12);
    }

    private static void rightsNot() {
        for (int wild : Bounds.outside(0, -1)) {
            B.refused("rights(" + wild + ", 0, 11), no HOUSE", PlaySeason.UNKNOWN, Bounds::bare, x -> x.rights(wild, 0, 11));
        }
        for (int scene = 0; scene < 3; scene++) {
            int last = Bounds.TITLES[scene] - 1;
            for (int wild : Bounds.outside(0, last)) {
                B.refused("rights(" + wild + ", 0, 11)", PlaySeason.UNKNOWN, Bounds.WITH_HOUSE[scene], x -> x.rights(wild, 0, 11));
            }
            B.so("rights(" + last + ", 0, 0) is done", Bounds.WITH_HOUSE[scene].make().rights(last, 0, 0) >= 0);
        }
        for (int wild : Bounds.outside(0, 11)) {
            B.refused("rights(0, " + wild + ", 11)", PlaySeason.OUTSIDE, Bounds.WITH_HOUSE, x -> x.rights(0, wild, 11));
            B.refused("rights(0, 0, " + wild + ")", PlaySeason.OUTSIDE, Bounds.WITH_HOUSE, x -> x.rights(0, 0, wild));
            B.refused("rights(0, " + wild + ", itself)", PlaySeason.OUTSIDE, Bounds.WITH_HOUSE, x -> x.rights(0, wild, wild));
        }
        for (int first = 1; first < 12; first++) {
            for (int last = 0; last < first; last++) {
                int from = first;
                int to = last;
                B.refused("rights(0, " + from + ", " + to + ")", PlaySeason.OUTSIDE, Bounds.WITH_HOUSE, x -> x.rights(0, from, to));
            }
        }
    }

    private static void kinds() {
        for (int was = 0; was < 5; was++) {
            for (int kind = 0; kind < 5; kind++) {
                PlaySeason x = Due.withHouse(FIVE);
                x.be(4, was);
                B.is("be(4, " + kind + "), of " + was, x.be(4, kind), was);
                B.is("title(4, 0)", x.title(4, 0), kind);
                B.is("title(3, 0)", x.title(3, 0), 0);
            }
        }
        // nothing else of it changes
        PlaySeason x = Due.withHouse("t34ck7");
        x.be(0, 4);
        int[] want = {4, 3, 4, 2, 10, 7, 0, 31, 0};
        for (int what = 0; what < want.length; what++) {
            B.is("be(0, 4), title(0, " + what + ")", x.title(0, what), want[what]);
        }
        // by what it is then it breaks and fills
        PlaySeason y = Due.withPlan("t00al1", "0.0.........");
        String[] breaks = {"00", "04", "54", "66", "00"};
        int[] seats = {100, 150, 150, 100, 100};
        for (int kind = 0; kind < 5; kind++) {
            y.be(0, kind);
            B.is("be(0, " + kind + "), night(0, 1)", y.night(0, 1), breaks[kind].charAt(0) - '0');
            B.is("be(0, " + kind + "), night(2, 1)", y.night(2, 1), breaks[kind].charAt(1) - '0');
            B.is("be(0, " + kind + "), night(0, 2)", y.night(0, 2), seats[kind]);
        }
    }

    private static void kindsNot() {
        for (int wild : Bounds.outside(0, -1)) {
            B.refused("be(" + wild + ", 1), no HOUSE", PlaySeason.UNKNOWN, Bounds::bare, x -> x.be(wild, 1));
        }
        for (int scene = 0; scene < 3; scene++) {
            int last = Bounds.TITLES[scene] - 1;
            for (int wild : Bounds.outside(0, last)) {
                B.refused("be(" + wild + ", 1)", PlaySeason.UNKNOWN, Bounds.WITH_HOUSE[scene], x -> x.be(wild, 1));
            }
            B.so("be(" + last + ", 4) is done", Bounds.WITH_HOUSE[scene].make().be(last, 4) >= 0);
        }
        for (int wild : Bounds.outside(0, 4)) {
            B.refused("be(0, " + wild + ")", PlaySeason.OUTSIDE, Bounds.WITH_HOUSE, x -> x.be(0, wild));
        }
    }

    // ---- promise 15

    /** The title may be on at one night alone: it is put there if that night is in the span, also at its ends. */
    private static void spans() {
        for (int only = 0; only < 12; only++) {
            String house = "t00" + (char) ('a' + only) + (char) ('a' + only) + "7";
            for (int first = 0; first < 12; first++) {
                for (int last = first; last < 12 && last < first + 4; last++) {
                    boolean within = only >= first && only <= last;
                    String call = house + " best(" + first + ", " + last + ", ";
                    B.is(call + "0)", Due.withHouse(house).best(first, last, 0), within ? 11 : 12);
                    B.is(call + "1)", Due.withHouse(house).best(first, last, 1), within ? 700 : 0);
                    PlaySeason x = Due.withHouse(house);
                    B.is(call + "2)", x.best(first, last, 2), within ? 1 : 0);
                    B.planIs(call + "2)", x, within ? Bounds.plan(only, 0) : "............");
                }
            }
        }
        // what 0 and what 1 leave the plan as it is
        PlaySeason x = Due.withHouse("t00al1");
        x.best(0, 3, 0);
        x.best(0, 3, 1);
        B.planIs("best(0, 3, 1)", x, "............");
        B.is("count(1)", x.count(1), 0);
    }

    private static void becomes() {
        PlaySeason x = Due.withHouse("t00al1,t01al2");
        B.is("best(0, 3, 2)", x.best(0, 3, 2), 4);
        B.is("best(4, 7, 2)", x.best(4, 7, 2), 8);
        B.is("best(8, 11, 2)", x.best(8, 11, 2), 12);
        B.is("count(1)", x.count(1), 12);
        B.is("count(3)", x.count(3), 0);
        B.is("best(0, 11, 2), none is dark", x.best(0, 11, 2), 12);
        B.is("best(0, 11, 0), none is dark", x.best(0, 11, 0), 0);
        B.is("best(0, 11, 1), none is dark", x.best(0, 11, 1), x.count(4));
        PlaySeason y = Due.withHouse("t00ll1");
        B.is("best(0, 3, 2), none can be", y.best(0, 3, 2), 0);
        B.is("count(9)", y.count(9), 1);
    }

    private static void noSpan() {
        for (int what = 0; what < 3; what++) {
            int own = what;
            B.refused("best(0, 0, " + what + "), no HOUSE", PlaySeason.UNKNOWN, Bounds::bare, x -> x.best(0, 0, own));
            B.refused("best(0, 11, " + what + "), no HOUSE", PlaySeason.UNKNOWN, Bounds::bare, x -> x.best(0, 11, own));
            for (int wild : Bounds.outside(0, 11)) {
                B.refused("best(" + wild + ", 11, ..)", PlaySeason.UNKNOWN, Bounds.SCENES, x -> x.best(wild, 11, own));
                B.refused("best(0, " + wild + ", ..)", PlaySeason.UNKNOWN, Bounds.SCENES, x -> x.best(0, wild, own));
                B.refused("best(11, " + wild + ", ..)", PlaySeason.UNKNOWN, Bounds.SCENES, x -> x.best(11, wild, own));
                B.refused("best(" + wild + ", itself, ..)", PlaySeason.UNKNOWN, Bounds.SCENES, x -> x.best(wild, wild, own));
            }
        }
        for (int first = 1; first < 12; first++) {
            for (int last = 0; last < first; last++) {
                int from = first;
                int to = last;
                B.refused("best(" + from + ", " + to + ", 0)", PlaySeason.UNKNOWN, Bounds.WITH_HOUSE, x -> x.best(from, to, 0));
            }
        }
    }

    private static void noWhat() {
        for (int wild : Bounds.outside(0, 2)) {
            B.refused("best(0, 0, " + wild + ")", PlaySeason.OUTSIDE, Bounds.WITH_HOUSE, x -> x.best(0, 0, wild));
            B.refused("best(11, 11, " + wild + ")", PlaySeason.OUTSIDE, Bounds.WITH_HOUSE, x -> x.best(11, 11, wild));
        }
        for (int what = 0; what < 3; what++) {
            B.so("best(11, 11, " + what + ") is told", Bounds.one().best(11, 11, what) >= 0);
        }
    }

    private static void fiveDark() {
        for (int what = 0; what < 3; what++) {
            int own = what;
            B.refused("best(0, 4, ..), all dark", PlaySeason.STATE, Bounds::one, x -> x.best(0, 4, own));
            B.refused("best(7, 11, ..), all dark", PlaySeason.STATE, Bounds::one, x -> x.best(7, 11, own));
            B.refused("best(0, 11, ..), all dark", PlaySeason.STATE, Bounds::one, x -> x.best(0, 11, own));
            B.so("best(0, 3, ..), four are dark", Bounds.one().best(0, 3, what) >= 0);
            B.so("best(8, 11, ..), four are dark", Bounds.one().best(8, 11, what) >= 0);
            // dark are the nights 1, 4, 6, 7, 9, 10, 11
            B.refused("best(1, 9, ..), five are dark", PlaySeason.STATE, Bounds::busy, x -> x.best(1, 9, own));
            B.refused("best(4, 10, ..), five are dark", PlaySeason.STATE, Bounds::busy, x -> x.best(4, 10, own));
            B.so("best(2, 9, ..), four are dark", Bounds.busy().best(2, 9, what) >= 0);
            B.so("best(0, 8, ..), four are dark", Bounds.busy().best(0, 8, what) >= 0);
        }
    }

    private static void told(PlaySeason x, int from, int to) {
        for (int time = from; time <= to; time++) {
            B.so("best is told, time " + time, x.best(0, 0, time % 3) >= 0);
            B.is("count(9)", x.count(9), time);
            // refusals do not count
            x.best(0, 0, 3);
            x.best(1, 0, 0);
            x.best(0, 12, 0);
            x.best(1, 11, 0);
            B.is("count(9), refused", x.count(9), time);
        }
    }

    private static void eightTimes() {
        PlaySeason plain = Due.withHouse("t00al1");
        told(plain, 1, 8);
        B.is("the ninth time", plain.best(0, 0, 0), PlaySeason.STATE);
        // whatever the HOUSE, restored or not
        PlaySeason x = Due.withHouse("t00al1");
        x.best(0, 0, -1);
        x.image();
        told(x, 1, 3);
        x.restore();
        B.is("count(9), restored", x.count(9), 3);
        told(x, 4, 5);
        Due.type(x, "t00al1,t00al1");
        x.house();
        B.is("count(9), another HOUSE", x.count(9), 5);
        told(x, 6, 8);
        x.image();
        for (int what = 0; what < 3; what++) {
            int own = what;
            B.is("the ninth time, best(0, 0, " + what + ")", x.best(0, 0, what), PlaySeason.STATE);
            B.refused("the ninth time", PlaySeason.STATE, Bounds::full, y -> y.best(0, 0, own));
        }
        x.restore();
        B.is("the ninth time, restored", x.best(0, 0, 0), PlaySeason.STATE);
        Due.type(x, "t00al1");
        x.house();
        B.is("the ninth time, another HOUSE", x.best(0, 0, 2), PlaySeason.STATE);
        B.is("count(9)", x.count(9), 8);
        B.planIs("the ninth time", x, "............");
    }
}
