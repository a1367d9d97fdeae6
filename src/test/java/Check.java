import java.nio.charset.StandardCharsets;

/** What all tests use: counts wrong answers, prints each, and ends the run with 1 if there was one. */
final class Check {
    private int wrong = 0;
    private int asked = 0;

    void due(String call, long got, long want) {
        asked++;
        if (got != want) {
            wrong++;
            if (wrong <= 200) {
                System.out.println(call + " answered " + got + ", due is " + want);
            }
        }
    }

    void holds(String what, boolean so) {
        due(what, so ? 1 : 0, 1);
    }

    boolean isWrong() {
        return wrong > 0;
    }

    void end() {
        System.out.println(asked + " answers, " + wrong + " not as due");
        if (wrong > 0) {
            System.exit(1);
        }
    }

    static void typeIn(MarkedByNext x, int text, String bytes) {
        for (byte b : bytes.getBytes(StandardCharsets.ISO_8859_1)) {
            x.type(text, b & 255);
        }
    }

    static MarkedByNext school(String boys, String benches) {
        MarkedByNext x = new MarkedByNext();
        typeIn(x, 0, boys);
        typeIn(x, 1, benches);
        return x;
    }
}
