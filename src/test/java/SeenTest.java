/** Promises 17 and 18: see, forget; SORTS and ASK of promise 7. */
public final class SeenTest {
    private static final Due DUE = new Due();

    public static void main(String[] args) {
        sorts();
        asks();
        ofEachTitle();
        full();
        refusals();
        DUE.end();
    }

    /** What is seen: pairs of what and whether (1, 0). */
    private static void seen(int sorts, int ask, int... pairs) {
        PlaySeason x = Due.withHouse("r00al1,t00al1");
        StringBuilder call = new StringBuilder("see");
        for (int i = 0; i < pairs.length; i += 2) {
            call.append(" ").append(pairs[i]).append(pairs[i + 1] == 1 ? "+" : "-");
            DUE.is(call.toString(), x.see(1, pairs[i], pairs[i + 1] == 1), i / 2 + 1);
        }
        DUE.is(call + ", title(1, 7)", x.title(1, 7), sorts);
        DUE.is(call + ", title(1, 8)", x.title(1, 8), ask);
        DUE.is(call + ", title(1, 0)", x.title(1, 0), 0);
        DUE.is(call + ", title(0, 7)", x.title(0, 7), 31);
    }

    private static void sorts() {
        seen(31, 0);
        seen(0b11001, 1, 0, 1);
        seen(0b00110, 0, 0, 0);
        seen(0b10111, 0, 1, 1);
        seen(0b01000, 0, 1, 0);
        seen(0b00110, 0, 2, 1);
        seen(0b11001, 1, 2, 0);
        seen(0b10000, 0, 3, 1);
        seen(0b01111, 0, 3, 0);
    }

    private static void asks() {
        seen(0b10001, 3, 0, 1, 1, 1);
        seen(0b01001, 1, 0, 1, 3, 0);
        seen(0b00001, 0, 0, 1, 1, 1, 3, 0);
        seen(0b00111, 0, 1, 1, 3, 0);
        seen(0, PlaySeason.NONE, 0, 1, 0, 0);
        seen(0, PlaySeason.NONE, 3, 1, 2, 1);
        seen(0b00110, 0, 2, 1, 2, 1, 2, 1, 2, 1, 2, 1, 2, 1);
    }

    private static void ofEachTitle() {
        PlaySeason x = Due.withHouse("t00al1,t00al1,t00al1");
        DUE.is("see(0, 0, true)", x.see(0, 0, true), 1);
        DUE.is("see(2, 3, true)", x.see(2, 3, true), 2);
        DUE.is("see(0, 1, false)", x.see(0, 1, false), 3);
        DUE.is("title(0, 7)", x.title(0, 7), 8);
        DUE.is("title(1, 7)", x.title(1, 7), 31);
        DUE.is("title(2, 7)", x.title(2, 7), 16);
        DUE.is("count(6)", x.count(6), 3);
        x.be(0, 4);
        DUE.is("title(0, 7), another kind", x.title(0, 7), 8);
        DUE.is("forget()", x.forget(), 3);
        DUE.is("forget() again", x.forget(), 0);
        DUE.is("title(0, 7), forgotten", x.title(0, 7), 31);
        DUE.is("count(6), forgotten", x.count(6), 0);
        DUE.is("see(1, 2, true)", x.see(1, 2, true), 1);
        DUE.is("title(0, 7), seen anew", x.title(0, 7), 31);
        DUE.is("title(1, 7), seen anew", x.title(1, 7), 6);
    }

    private static void full() {
        PlaySeason x = Due.withHouse("t00al1,t00al1");
        for (int many = 1; many <= 6; many++) {
            DUE.is("see", x.see(many % 2, 2, false), many);
        }
        long ahead = x.digest();
        DUE.is("see, the seventh", x.see(0, 2, false), PlaySeason.FULL);
        DUE.is("see, the seventh, what", x.see(0, 4, false), PlaySeason.OUTSIDE);
        DUE.is("see, the seventh, title", x.see(2, 4, false), PlaySeason.UNKNOWN);
        DUE.unchanged("see", x, ahead);
        DUE.is("forget()", x.forget(), 6);
        DUE.is("see", x.see(0, 2, false), 1);
    }

    private static void refusals() {
        PlaySeason x = Due.withHouse("t00al1");
        long ahead = x.digest();
        for (int wild : new int[] {-1, 1, 5, Integer.MIN_VALUE, Integer.MAX_VALUE}) {
            DUE.is("see(" + wild + ", 0, true)", x.see(wild, 0, true), PlaySeason.UNKNOWN);
            DUE.is("see(" + wild + ", 4, true)", x.see(wild, 4, true), PlaySeason.UNKNOWN);
        }
        for (int wild : new int[] {-1, 4, Integer.MIN_VALUE, Integer.MAX_VALUE}) {
            DUE.is("see(0, " + wild + ", true)", x.see(0, wild, true), PlaySeason.OUTSIDE);
        }
        DUE.unchanged("see", x, ahead);
    }
}
