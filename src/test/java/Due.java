/** Compares answers with those that are due, and ends a test. */
final class Due {
    private int wrong;
    private int asked;

    void is(String call, long got, long want) {
        asked++;
        if (got != want) {
            wrong++;
            System.out.println(call + " answered " + got + ", due is " + want);
        }
    }

    int asked() {
        return asked;
    }

    void end() {
        System.out.println(asked + " answers, " + wrong + " wrong");
        if (wrong != 0 || asked == 0) {
            System.exit(1);
        }
    }

    /** Puts the letters of a text on THE PAGE. */
    static void type(PlaySeason x, String text) {
        for (int i = 0; i < text.length(); i++) {
            x.letter(text.charAt(i));
        }
    }

    static PlaySeason withHouse(String house) {
        PlaySeason x = new PlaySeason();
        type(x, house);
        if (x.house() < 1) {
            throw new IllegalArgumentException("no house: " + house);
        }
        return x;
    }

    static PlaySeason withPlan(String house, String plan) {
        PlaySeason x = withHouse(house);
        replan(x, plan);
        return x;
    }

    static void replan(PlaySeason x, String plan) {
        x.blank();
        type(x, plan);
        if (x.plan() < 0) {
            throw new IllegalArgumentException("no plan: " + plan);
        }
    }

    /** The plan as a text, as plan() would read it. */
    static String planOf(PlaySeason x) {
        StringBuilder text = new StringBuilder();
        for (int night = 0; night < 12; night++) {
            int title = x.night(night, 0);
            text.append(title == PlaySeason.NONE ? "." : Integer.toString(title));
        }
        return text.toString();
    }

    void plan(String call, PlaySeason x, String want) {
        String got = planOf(x);
        is(call + ": the plan is " + got + ", due is " + want + ", so whether it is so", got.equals(want) ? 1 : 0, 1);
    }

    /** That a call that was refused has changed nothing. */
    void unchanged(String call, PlaySeason x, long digestAhead) {
        is(call + ", refused: digest()", x.digest(), digestAhead);
    }
}
