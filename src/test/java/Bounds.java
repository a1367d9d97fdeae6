/** Tests of boundary cases: each begins with the words of the document that name it, each row bears its promise. */
abstract class Bounds {
    static final int NONE = -1, BAD = -2, NOT = -3, FULL = -4;
    static final int NULL = -11, INDEX = -12, CAST = -13, STORE = -14, SIZE = -15;
    static final int LEAST = Integer.MIN_VALUE, MOST = Integer.MAX_VALUE;
    static final long LONG_BAD = Long.MIN_VALUE + 2;

    static final String EIGHT_BOYS = "c159;d267;b048;d753;c391;b826;d914;c000";
    static final String SIXTEEN_SEATS = "abc.;de.f;.g..;h...";

    private final Sayings sayings;

    Bounds(Sayings sayings) {
        this.sayings = sayings;
    }

    abstract void all();

    final void says(String words) {
        sayings.begin(words);
    }

    final void due(int promise, String what, long got, long want) {
        sayings.due(promise, what, got, want);
    }

    static MarkedByNext school(String boys, String benches) {
        return Check.school(boys, benches);
    }

    static MarkedByNext withText(int text, String bytes) {
        MarkedByNext x = new MarkedByNext();
        Check.typeIn(x, text, bytes);
        return x;
    }

    static void fillSheet(MarkedByNext x, int s, int form, int... items) {
        x.sheet(s, form, items.length);
        for (int i = 0; i < items.length; i++) {
            x.put(s, form, i, items[i]);
        }
    }
}
