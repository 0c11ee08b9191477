/** Tests of the bounds that a sentence of the document names: a wrong answer is told with promise and sentence. */
final class Bounds {
    /** Calls on an object. */
    interface Calls {
        void on(StageSieve x);
    }

    /** A call with one argument free. */
    interface Call {
        long with(StageSieve x, int number);
    }

    /** A house of two sorts and asks with a row, told nights and something KEPT: all of it can be lost. */
    static final Calls HOUSE = x -> {
        Check.write(x, "s7,3,1,0;s3,5,4,4;a0,0,2,1;a3,4,5,2;t0,0;c3;p61,3;");
        x.lay();
        x.tell(0, 0, 3, 1);
        x.keep();
        x.step(1, 1);
        x.tell(1, 0, 2, 2);
    };

    private static final int LOWEST = Integer.MIN_VALUE;
    private static final int HIGHEST = Integer.MAX_VALUE;

    private final Check check = new Check();
    private String of = "";

    /** What of the document the answers are of that are due next, word for word. */
    void sentence(int promise, String... words) {
        of = "promise " + promise + ", '" + String.join(" .. ", words) + "': ";
    }

    void due(String call, long got, long want) {
        check.due(of + call, got, want);
    }

    void end() {
        check.end();
    }

    static StageSieve made(Calls calls) {
        StageSieve x = new StageSieve();
        calls.on(x);
        return x;
    }

    /** Refused calls: whatever can be asked then is answered as by an object without them. */
    void refused(String call, Calls before, Calls refused) {
        StageSieve x = made(before);
        refused.on(x);
        due(call + " changes nothing", State.of(x).equals(State.of(made(before))) ? 1 : 0, 1);
    }

    /** The last numbers of an argument (# in the call's name) that are taken, and the first that are BAD. */
    void numbers(String call, Calls before, int least, int most, Call made) {
        taken(call, before, least, made);
        taken(call, before, most, made);
        bad(call, before, least - 1, made);
        bad(call, before, LOWEST, made);
        bad(call, before, most + 1, made);
        bad(call, before, HIGHEST, made);
    }

    void taken(String call, Calls before, int number, Call made) {
        due(named(call, number) + " is taken, 1, or BAD, 0", made.with(made(before), number) == -1 ? 0 : 1, 1);
    }

    void bad(String call, Calls before, int number, Call made) {
        refused(named(call, number), before, x -> due(named(call, number), made.with(x, number), -1));
    }

    private static String named(String call, int number) {
        return call.replace("#", String.valueOf(number));
    }
}
