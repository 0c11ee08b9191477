/** Counts and prints the answers that are not those due. */
final class Check {
    private int calls;
    private int wrong;

    void due(String call, long got, long want) {
        calls++;
        if (got != want) {
            wrong++;
            System.out.println(call + " answered " + got + ", due is " + want);
        }
    }

    /** Writes a text behind THE TEXT, eight bytes at a call. */
    static void write(StageSieve x, String text) {
        for (int from = 0; from < text.length(); from += 8) {
            String part = text.substring(from, Math.min(text.length(), from + 8));
            long v = 0;
            for (char sign : part.toCharArray()) {
                v = v << 8 | sign & 255;
            }
            x.write(part.length(), v);
        }
    }

    /** A house laid by a text. */
    static StageSieve laid(String text) {
        StageSieve x = new StageSieve();
        write(x, text);
        if (x.lay() < 0) {
            throw new IllegalArgumentException("not laid: " + text);
        }
        return x;
    }

    void end() {
        System.out.println(wrong == 0 ? calls + " answers are as due" : wrong + " answers are not as due");
        if (wrong != 0) {
            System.exit(1);
        }
    }
}
