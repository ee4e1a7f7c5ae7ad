import java.util.Random;

/** All promises: runs of calls, drawn by fixed seeds, answered by PlaySeason and by Model alike. */
public final class ModelTest {
    private static final int RUNS = 400;
    private static final int CALLS = 512;
    private static final int[] WILD = {-2, -1, 5, 12, 13, 99, Integer.MIN_VALUE, Integer.MAX_VALUE};

    private final Due due;
    private final int run;
    private final Random random;
    private final PlaySeason x = new PlaySeason();
    private final Model model = new Model();
    private int calls;

    private ModelTest(Due due, int run) {
        this.due = due;
        this.run = run;
        this.random = new Random(run);
    }

    public static void main(String[] args) {
        Due due = new Due();
        for (int run = 0; run < RUNS; run++) {
            new ModelTest(due, run).all();
        }
        due.end();
    }

    private void all() {
        while (calls < CALLS) {
            step();
            if (random.nextInt(8) == 0) {
                is("digest()", x.digest(), model.digest());
            }
        }
    }

    private void is(String call, long got, long want) {
        calls++;
        due.is("run " + run + ", call " + calls + ": " + call, got, want);
    }

    /** Most often a number below the bound, now and then any other. */
    private int some(int bound) {
        return random.nextInt(12) == 0 ? WILD[random.nextInt(WILD.length)] : random.nextInt(bound);
    }

    private void type(String text) {
        for (char c : text.toCharArray()) {
            is("letter(" + (int) c + ")", x.letter(c), model.letter(c));
        }
    }

    private String anyHouse() {
        StringBuilder text = new StringBuilder();
        int titles = 1 + random.nextInt(5);
        for (int title = 0; title < titles; title++) {
            int first = random.nextInt(3) == 0 ? random.nextInt(12) : 0;
            int last = random.nextInt(3) == 0 ? first + random.nextInt(12 - first) : 11;
            text.append(title == 0 ? "" : ",").append("tgfrd".charAt(random.nextInt(5)));
            text.append(random.nextInt(random.nextBoolean() ? 2 : 5)).append(random.nextInt(random.nextBoolean() ? 3 : 5));
            text.append((char) ('a' + first)).append((char) ('a' + last)).append(1 + random.nextInt(9));
        }
        return spoilt(text);
    }

    private String anyPlan() {
        StringBuilder text = new StringBuilder();
        int titles = Math.max(1, model.count(0));
        int litOfTen = 3 + random.nextInt(8);
        for (int night = 0; night < 12; night++) {
            text.append(random.nextInt(10) < litOfTen ? (char) ('0' + random.nextInt(titles)) : '.');
        }
        return spoilt(text);
    }

    /** The text, now and then with a letter changed, left out or put in. */
    private String spoilt(StringBuilder text) {
        if (random.nextInt(6) == 0) {
            int place = random.nextInt(text.length());
            char letter = "tgfrd012345.,abklm9 ".charAt(random.nextInt(20));
            switch (random.nextInt(3)) {
                case 0 -> text.setCharAt(place, letter);
                case 1 -> text.deleteCharAt(place);
                default -> text.insert(place, letter);
            }
        }
        return text.toString();
    }

    private void readHouse() {
        is("blank()", x.blank(), model.blank());
        type(anyHouse());
        is("fault()", x.fault(), model.fault());
        is("house()", x.house(), model.house());
    }

    private void readPlan() {
        if (random.nextInt(4) != 0) {
            is("blank()", x.blank(), model.blank());
        }
        type(anyPlan());
        is("plan()", x.plan(), model.plan());
    }

    private void step() {
        int chance = random.nextInt(100);
        if (chance < 4 || calls < 30 && chance < 30) {
            readHouse();
        } else if (chance < 9) {
            readPlan();
        } else if (chance < 14) {
            letters();
        } else if (chance < 50) {
            change();
        } else {
            tell();
        }
    }

    private void letters() {
        int code = random.nextInt(4) == 0 ? some(140) : "tgfrd04al19,.".charAt(random.nextInt(13));
        switch (random.nextInt(5)) {
            case 0 -> is("blank()", x.blank(), model.blank());
            case 1 -> is("fault()", x.fault(), model.fault());
            case 2 -> is("house()", x.house(), model.house());
            default -> is("letter(" + code + ")", x.letter(code), model.letter(code));
        }
    }

    private void change() {
        int a = some(12);
        int b = some(5);
        int c = some(5);
        boolean could = random.nextBoolean();
        String two = "(" + b + ", " + c + ")";
        switch (random.nextInt(12)) {
            case 0, 1, 2 -> {
                int title = random.nextInt(4) == 0 ? -1 : b;
                is("play(" + a + ", " + title + ")", x.play(a, title), model.play(a, title));
            }
            case 3 -> is("delay(" + a % 13 / 3 + ")", x.delay(a % 13 / 3), model.delay(a % 13 / 3));
            case 4 -> is("add(" + b + ", " + c + ", " + a % 5 + ")", x.add(b, c, a % 5), model.add(b, c, a % 5));
            case 5 -> {
                int last = some(12);
                is("rights(" + b + ", " + a + ", " + last + ")", x.rights(b, a, last), model.rights(b, a, last));
            }
            case 6 -> is("be" + two, x.be(b, c), model.be(b, c));
            case 7 -> is("see" + two + could, x.see(b, c, could), model.see(b, c, could));
            case 8 -> {
                if (random.nextInt(3) == 0) {
                    is("forget()", x.forget(), model.forget());
                }
            }
            case 9 -> is("image()", x.image(), model.image());
            case 10 -> is("restore()", x.restore(), model.restore());
            default -> {
                int last = some(12);
                int what = some(3);
                is("best(" + a + ", " + last + ", " + what + ")", x.best(a, last, what), model.best(a, last, what));
            }
        }
    }

    private void tell() {
        int a = some(12);
        int b = some(5);
        int c = some(9);
        switch (random.nextInt(7)) {
            case 0, 1 -> is("title(" + b + ", " + c + ")", x.title(b, c), model.title(b, c));
            case 2 -> is("as(" + b + ", " + a % 6 + ")", x.as(b, a % 6), model.as(b, a % 6));
            case 3 -> is("night(" + a + ", " + c % 4 + ")", x.night(a, c % 4), model.night(a, c % 4));
            case 4 -> is("rank(" + b + ")", x.rank(b), model.rank(b));
            case 5 -> is("count(" + a + ")", x.count(a), model.count(a));
            default -> {
                int times = 1 + some(20);
                int seed = some(Integer.MAX_VALUE);
                int what = some(3);
                is("drawn(" + times + ", " + seed + ", " + what + ")", x.drawn(times, seed, what), model.drawn(times, seed, what));
            }
        }
    }
}
