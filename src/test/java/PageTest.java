/** Promises 2 to 6: letter, blank, fault, house, plan. */
public final class PageTest {
    private static final Due DUE = new Due();

    public static void main(String[] args) {
        letters();
        blanks();
        faults();
        houses();
        plans();
        DUE.end();
    }

    private static void letters() {
        PlaySeason x = new PlaySeason();
        for (int code : new int[] {31, 127, -1, 0, 255, Integer.MIN_VALUE, Integer.MAX_VALUE, 65536 + 65}) {
            DUE.is("letter(" + code + ")", x.letter(code), PlaySeason.OUTSIDE);
        }
        DUE.is("letter(32)", x.letter(32), 1);
        DUE.is("letter(126)", x.letter(126), 2);
        for (int many = 3; many <= 40; many++) {
            DUE.is("letter(65)", x.letter(65), many);
        }
        long ahead = x.digest();
        DUE.is("letter(65), the 41st", x.letter(65), PlaySeason.FULL);
        DUE.is("letter(31), the 41st", x.letter(31), PlaySeason.OUTSIDE);
        DUE.is("count(7)", x.count(7), 40);
        DUE.unchanged("letter", x, ahead);
    }

    private static void blanks() {
        PlaySeason x = new PlaySeason();
        Due.type(x, "abc");
        DUE.is("blank()", x.blank(), 3);
        DUE.is("blank() again", x.blank(), 0);
        DUE.is("count(7)", x.count(7), 0);
        DUE.is("letter(65)", x.letter(65), 1);
    }

    private static void fault(String text, int want) {
        PlaySeason x = new PlaySeason();
        Due.type(x, text);
        DUE.is("fault() of " + text, x.fault(), want);
        DUE.is("fault() of " + text + ", count(7)", x.count(7), text.length());
        int titles = want == text.length() && text.length() % 7 == 6 ? (text.length() + 1) / 7 : PlaySeason.STATE;
        DUE.is("house() of " + text, x.house(), titles);
        DUE.is("house() of " + text + ", count(7)", x.count(7), titles > 0 ? 0 : text.length());
        DUE.is("house() of " + text + ", count(8)", x.count(8), titles > 0 ? 1 : 0);
    }

    private static void faults() {
        for (String text : new String[] {"", "t", "t4", "t40", "t00a", "t00aa", "t00ll", "t00al", "t00al1", "t00al9",
                "g00al1", "f00al1", "r00al1", "d44ll9", "t00al1,", "t00al1,d", "t00al1,t00al1,t00al1,t00al1,t00al1"}) {
            fault(text, text.length());
        }
        fault(" ", 0);
        fault("T00al1", 0);
        fault("s00al1", 0);
        fault("e00al1", 0);
        fault("h00al1", 0);
        fault("u00al1", 0);
        fault("t50al1", 1);
        fault("t/0al1", 1);
        fault("t05al1", 2);
        fault("t0/al1", 2);
        fault("t00`l1", 3);
        fault("t00ml1", 3);
        fault("t00Al1", 3);
        fault("t00am1", 4);
        fault("t00ba1", 4);
        fault("t00lk1", 4);
        fault("t00al0", 5);
        fault("t00al:", 5);
        fault("t00al1t", 6);
        fault("t00al1.", 6);
        fault("t00al1 ", 6);
        fault("t00al1,,", 7);
        fault("t00al1,t00ka1", 11);
        fault("t00al1,t00al1,t00al1,t00al1,t00al1,", 34);
        fault("t00al1,t00al1,t00al1,t00al1,t00al1,t00al", 34);
        fault("t00al1,t00al1,t00al1,t00al1,t00al10", 34);
        fault("x50ma0", 0);
    }

    private static void houses() {
        PlaySeason x = Due.withPlan("f34cl7,d12ab3", "0.1.0.1.0.1.");
        x.see(1, 1, true);
        DUE.is("best(1, 1, 0)", x.best(1, 1, 0) >= 0 ? 1 : 0, 1);
        Due.type(x, "t00al");
        long ahead = x.digest();
        DUE.is("house() of a part", x.house(), PlaySeason.STATE);
        DUE.unchanged("house", x, ahead);
        x.blank();
        Due.type(x, "r21bk4");
        DUE.is("house() anew", x.house(), 1);
        int[] title = {3, 2, 1, 1, 10, 4, 0, 31, 0};
        for (int what = 0; what < title.length; what++) {
            DUE.is("title(0, " + what + ")", x.title(0, what), title[what]);
        }
        DUE.plan("house() anew", x, "............");
        int[] counts = {1, 0, 0, 12, 0, 0, 0, 0, 2, 1};
        for (int what = 0; what < counts.length; what++) {
            DUE.is("house() anew, count(" + what + ")", x.count(what), counts[what]);
        }
        DUE.is("house() of an empty page", x.house(), PlaySeason.STATE);
        DUE.is("count(8)", x.count(8), 2);
    }

    private static void plans() {
        PlaySeason x = Due.withHouse("t00al1,g11bk2");
        plan(x, "............", 0);
        plan(x, "000000000000", 12);
        plan(x, ".0.1.0.1.0.1", 6);
        plan(x, "", PlaySeason.STATE);
        plan(x, "...........", PlaySeason.STATE);
        plan(x, ".............", PlaySeason.STATE);
        plan(x, "...........2", PlaySeason.STATE);
        plan(x, "/...........", PlaySeason.STATE);
        plan(x, "...........-", PlaySeason.STATE);
        plan(x, "..... ......", PlaySeason.STATE);
        plan(x, "t00al1,g11bk", PlaySeason.STATE);
        x.add(0, 0, 0);
        plan(x, "...........2", 1);
        x.add(0, 0, 0);
        x.add(0, 0, 0);
        plan(x, "01234.43210.", 10);
        plan(x, "...........5", PlaySeason.STATE);
        PlaySeason none = new PlaySeason();
        Due.type(none, "............");
        DUE.is("plan() with no house", none.plan(), PlaySeason.STATE);
        DUE.is("plan() with no house, count(7)", none.count(7), 12);
    }

    private static void plan(PlaySeason x, String text, int want) {
        x.blank();
        Due.type(x, text);
        long ahead = x.digest();
        DUE.is("plan() of " + text, x.plan(), want);
        if (want < 0) {
            DUE.unchanged("plan() of " + text, x, ahead);
        } else {
            DUE.plan("plan()", x, text);
            DUE.is("plan() of " + text + ", count(1)", x.count(1), want);
            DUE.is("plan() of " + text + ", count(7)", x.count(7), 0);
        }
    }
}
