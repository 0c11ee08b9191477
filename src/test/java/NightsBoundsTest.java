/** The bounds that the document names, of promises 24 to 29: nights by draws, what is KEPT, counts. */
public final class NightsBoundsTest {
    private static final int BAD = -1;
    private static final int NO = -2;
    private static final int FULL = -3;
    private static final int NONE = -4;
    private static final String LEAST = "s1,1,1,1;a1,1,1,1;";
    private static final Bounds bounds = new Bounds();

    /** Ask 0: the lowest plays, the other feels it; ask 1: both play by 5 tenths; ask 2: both feel it. */
    private static final String PLAYER_AND_OTHER = "s1,0,10,0;s1,10,10,0;a0,0,0,1;a10,0,5,1;a0,10,10,1;";

    private static void due(String call, long got, long want) {
        bounds.due(call, got, want);
    }

    public static void main(String[] args) {
        nightNumbers();
        draws();
        numberedBySort();
        feltBelow();
        doneOnStage();
        leastAndMostDraws();
        whoGoes();
        nobodyThere();
        playedAtTheLastStep();
        oneTenthMore();
        oneTenthMoreThanNothing();
        tenAtMost();
        notAtTheFirstStep();
        theNextStepAlone();
        oneTenthAgain();
        theLowestFelt();
        theLowestThere();
        theLowestWent();
        sixOrFewer();
        firstOfStepsToSix();

        onePersons();
        notSoMany();
        badAheadOfNone();

        nightsNumbers();
        modulo10000();
        leastAndMostLeft();

        twoKept();
        keptAsItWas();
        keptNights();
        leastAndMostKept();

        nothingToGoBackTo();
        lastKept();
        rowToldAnew();

        countNumbers();
        leastCounts();
        mostCounts();
        bounds.end();
    }

    private static int draw(int z, int person, int step) {
        long x = 7919L * z + 6151L * person + 3571L * step + 1;
        return (int) (x * x % 65521 % 100);
    }

    /** The first z by which a PERSON draws a number at a STEP. */
    private static int dateOf(int number, int person, int step) {
        for (int z = 0; z < 10000; z++) {
            if (draw(z, person, step) == number) {
                return z;
            }
        }
        throw new IllegalArgumentException("never drawn: " + number);
    }

    private static int there(StageSieve x, int z, int person) {
        for (int i = 0; i < 120; i++) {
            if (x.one(z, i) == person) {
                return 1;
            }
        }
        return 0;
    }

    // ---- promise 24: night

    private static void nightNumbers() {
        bounds.sentence(24, "A NIGHT by z (0 to 9999)", "how many are there (what = 0), how many PLAYED (1), STEPS to six (2; NONE). BAD");
        for (int w = 0; w < 3; w++) {
            int what = w;
            bounds.numbers("night(#, " + what + ")", Bounds.HOUSE, 0, 9999, (x, z) -> x.night(z, what));
        }
        bounds.numbers("night(0, #)", Bounds.HOUSE, 0, 2, (x, what) -> x.night(0, what));
        bounds.numbers("night(9999, #)", Bounds.HOUSE, 0, 2, (x, what) -> x.night(9999, what));
        bounds.refused("night(z, what)", Bounds.HOUSE, x -> due("night(7, 0)", x.night(7, 0) >= 0 ? 1 : 0, 1));
    }

    private static void draws() {
        bounds.sentence(24, "DRAW(i, t): x is 7919 z, 6151 i, 3571 t and 1 together: ((x times x) modulo 65521) modulo 100");
        // half do ask 0, all do ask 1; the last STEP is t 7, the last PERSON i 119
        String house = "s60,5,0,0;s60,5,0,0;a0,0,10,1;a0,5,10,1;" + "t1,0;".repeat(7) + "t0,0;";
        for (int z : new int[] {0, 1, 9998, 9999}) {
            StageSieve x = Check.laid(house);
            int there = 0;
            for (int person = 0; person < 120; person++) {
                if (draw(z, person, 7) < 50) {
                    due("one(" + z + ", " + there + ")", x.one(z, there), person);
                    there++;
                }
            }
            due("night(" + z + ", 0)", x.night(z, 0), there);
            due("one behind the last of " + z, x.one(z, there), NONE);
        }
        // x 1, and 6152 of the next PERSON: 37847104 modulo 65521 is 41487
        StageSieve two = Check.laid("s2,0,5,0;a10,0,0,1;t0,0;");
        due("draws 1 and 87", two.night(0, 0), 1);
        due("who draws 1", two.one(0, 0), 0);
    }

    private static void numberedBySort() {
        bounds.sentence(24, "PEOPLE are numbered by SORT");
        StageSieve x = Check.laid("s60,0,0,0;s1,10,0,0;s58,0,0,0;s1,10,0,0;a0,0,10,1;t0,0;");
        due("night(0, 0)", x.night(0, 0), 2);
        due("one(0, 0)", x.one(0, 0), 60);
        due("one(0, 1)", x.one(0, 1), 119);
        StageSieve ends = Check.laid("s1,10,0,0;s58,0,0,0;s1,10,0,0;a0,0,10,1;t0,0;");
        due("the first of the first SORT", ends.one(0, 0), 0);
        due("the last of the last", ends.one(0, 1), 59);
    }

    private static void feltBelow() {
        bounds.sentence(24, "FELT, if below 10 times FELT, PLAYED, if else below DO, else does not");
        // FELT 2, PLAY 3: DO 44
        int[][] cases = {{0, 1, 0}, {19, 1, 0}, {20, 1, 1}, {43, 1, 1}, {44, 0, 0}, {99, 0, 0}};
        for (int[] c : cases) {
            int z = dateOf(c[0], 0, 0);
            StageSieve doers = Check.laid("s1,2,3,0;a0,0,0,1;t0,0;");
            due("drawn " + c[0] + ", there", doers.night(z, 0), c[1]);
            due("drawn " + c[0] + ", PLAYED", doers.night(z, 1), c[2]);
            StageSieve others = Check.laid("s1,2,3,0;a0,0,0,1;t0,1;");
            due("drawn " + c[0] + ", there by K 1", others.night(z, 0), 1 - c[1]);
            due("drawn " + c[0] + ", PLAYED by K 1", others.night(z, 1), 0);
        }
    }

    private static void doneOnStage() {
        bounds.sentence(24, "LEFT by THE ROW (on STAGE)", "STEP by STEP of THE ROW (t 0 first) each that is there does by DRAW(i, t)");
        // FELT 2 by words, PLAY 5 by fear: DO 60
        String house = "s1,3,4,2;a3,2,1,1;t0,0;";
        for (int[] c : new int[][] {{19, 1, 0}, {20, 1, 1}, {59, 1, 1}, {60, 0, 0}}) {
            int z = dateOf(c[0], 0, 0);
            due("drawn " + c[0] + ", there", Check.laid(house).night(z, 0), c[1]);
            due("drawn " + c[0] + ", PLAYED", Check.laid(house).night(z, 1), c[2]);
        }
    }

    private static void leastAndMostDraws() {
        bounds.sentence(24, "modulo 65521) modulo 100: FELT, if below 10 times FELT, PLAYED, if else below DO, else does not");
        for (int drawn : new int[] {0, 99}) {
            int z = dateOf(drawn, 0, 0);
            due("drawn " + drawn + ", DO 0", Check.laid("s1,0,0,0;a0,0,0,1;t0,0;").night(z, 0), 0);
            due("drawn " + drawn + ", FELT 10", Check.laid("s1,10,10,0;a0,0,0,1;t0,0;").night(z, 0), 1);
            due("drawn " + drawn + ", FELT 10, PLAYED", Check.laid("s1,10,10,0;a0,0,0,1;t0,0;").night(z, 1), 0);
            due("drawn " + drawn + ", PLAY 10, PLAYED", Check.laid("s1,0,10,0;a0,0,0,1;t0,0;").night(z, 1), 1);
        }
    }

    private static void whoGoes() {
        bounds.sentence(24, "Who is not kept goes");
        // nobody does ask 0, all do ask 1
        String house = "s60,5,0,0;s60,5,0,0;a5,0,10,1;a0,5,10,1;";
        due("all stay", Check.laid(house + "t0,1;t1,0;").night(0, 0), 120);
        due("all went", Check.laid(house + "t0,0;t0,1;t1,0;").night(0, 0), 0);
        due("all went at the second", Check.laid(house + "t1,0;t1,1;t1,0;").night(0, 0), 0);
    }

    private static void nobodyThere() {
        bounds.sentence(24, "How many are there in the end", "how many of them PLAYED at the last STEP");
        StageSieve x = Check.laid("s60,0,10,0;a0,0,0,1;t0,0;t0,1;t0,0;");
        due("night(0, 0)", x.night(0, 0), 0);
        due("night(0, 1)", x.night(0, 1), 0);
        due("night(0, 2)", x.night(0, 2), 2);
        due("one(0, 0)", x.one(0, 0), NONE);
        due("nights(0, 0)", x.nights(0, 0), 10);
    }

    private static void playedAtTheLastStep() {
        bounds.sentence(24, "how many of them PLAYED at the last STEP");
        // all play ask 0, all feel ask 1
        String house = "s60,0,10,0;s60,0,10,0;a0,0,0,1;a0,10,0,1;";
        due("no STEP", Check.laid(house).night(0, 1), 0);
        due("one STEP", Check.laid(house + "t0,0;").night(0, 1), 120);
        due("felt at the last", Check.laid(house + "t0,0;t1,0;").night(0, 1), 0);
        due("played at the last", Check.laid(house + "t1,0;t0,0;").night(0, 1), 120);
        due("played at the last of 8", Check.laid(house + "t1,0;".repeat(7) + "t0,0;").night(0, 1), 120);
        due("who did went", Check.laid(house + "t0,1;").night(0, 1), 0);
    }

    private static void otherThere(String of, String house, int step, int... drawn) {
        for (int i = 0; i < 2; i++) {
            int z = dateOf(drawn[i], 1, step);
            due(of + ", drawn " + drawn[i], there(Check.laid(house), z, 1), 1 - i);
        }
    }

    private static void oneTenthMore() {
        bounds.sentence(24, "FOLLOW", "PLAY of all is 1 tenth more (10 at most) at the next STEP");
        otherThere("PLAY 6", PLAYER_AND_OTHER + "t0,0;t1,0;", 1, 59, 60);
        otherThere("PLAY 5 by K 1", PLAYER_AND_OTHER + "t2,0;t1,1;", 1, 50, 49);
        otherThere("PLAY 6 by K 1", PLAYER_AND_OTHER + "t0,0;t1,1;", 1, 60, 59);
        // the other's FELT 5, PLAY 3: DO 65, 70 then
        String half = "s1,0,10,0;s1,5,3,0;a0,0,0,1;a0,5,10,1;a0,0,0,1;";
        otherThere("FELT 5, PLAY 3", half + "t1,0;t2,0;", 1, 64, 65);
        int z = firstDate(69, 70);
        due("FELT 5, PLAY 4", there(Check.laid(half + "t0,0;t2,0;"), z, 1), 1);
        due("FELT 5, PLAY 4, a hundredth above", there(Check.laid(half + "t0,0;t2,0;"), firstDate(70, 71), 1), 0);
    }

    /** The first z by which the second PERSON does at t 0 by 65 hundredths and draws such a number at t 1. */
    private static int firstDate(int least, int below) {
        for (int z = 0; z < 10000; z++) {
            if (draw(z, 1, 0) < 65 && draw(z, 1, 1) >= least && draw(z, 1, 1) < below) {
                return z;
            }
        }
        throw new IllegalArgumentException("never drawn: " + least);
    }

    private static void oneTenthMoreThanNothing() {
        bounds.sentence(24, "PLAY, in tenths, 0 at least, 10 at most", "PLAY of all is 1 tenth more");
        // W 0 less E 10 is no PLAY, not less than none
        String house = "s1,0,10,0;s1,10,0,0;a0,0,0,1;a10,0,10,1;";
        otherThere("PLAY 1", house + "t0,0;t1,0;", 1, 9, 10);
        int z = dateOf(0, 1, 0);
        due("PLAY 0", there(Check.laid(house + "t1,0;"), z, 1), 0);
    }

    private static void tenAtMost() {
        bounds.sentence(24, "1 tenth more (10 at most)");
        String house = "s60,0,10,0;s60,9,10,0;a0,0,0,1;" + "t0,0;".repeat(8);
        for (int z = 0; z < 20; z++) {
            due("PLAY 10, there by " + z, Check.laid(house).night(z, 0), 120);
        }
        otherThere("PLAY 9", "s1,0,10,0;s1,10,9,0;a0,0,0,1;a10,0,0,1;t1,0;", 0, 89, 90);
        int z = dateOf(99, 1, 1);
        due("PLAY 9 and 1", there(Check.laid("s1,0,10,0;s1,10,9,0;a0,0,0,1;a10,0,0,1;t0,0;t1,0;"), z, 1), 1);
    }

    private static void notAtTheFirstStep() {
        bounds.sentence(24, "behind a STEP");
        otherThere("the first STEP", PLAYER_AND_OTHER + "t1,0;", 0, 49, 50);
    }

    private static void theNextStepAlone() {
        bounds.sentence(24, "at the next STEP");
        otherThere("the STEP behind the next", PLAYER_AND_OTHER + "t0,0;t2,0;t1,0;", 2, 49, 50);
        otherThere("the eighth STEP", PLAYER_AND_OTHER + "t0,0;".repeat(7) + "t1,0;", 7, 59, 60);
    }

    private static void oneTenthAgain() {
        bounds.sentence(24, "PLAY of all is 1 tenth more (10 at most) at the next STEP");
        otherThere("behind two", PLAYER_AND_OTHER + "t0,0;t0,0;t1,0;", 2, 59, 60);
    }

    private static void theLowestFelt() {
        bounds.sentence(24, "if the lowest one that is there behind a STEP PLAYED at it");
        String felt = PLAYER_AND_OTHER.replaceFirst("s1,0,10,0", "s1,10,10,0");
        otherThere("the lowest FELT", felt + "t0,0;t1,0;", 1, 49, 50);
        // of two SORTS the second PLAYED: person 1 is the lowest of it
        otherThere("one that is not the lowest PLAYED", "s1,10,10,0;s1,0,10,0;a0,0,0,1;a10,0,5,1;t0,0;t1,0;", 1, 49, 50);
    }

    private static void theLowestThere() {
        bounds.sentence(24, "the lowest one that is there behind a STEP");
        // the first goes at ask 0, the second is the lowest then
        otherThere("the second PLAYED", "s1,0,0,0;s1,0,10,0;a0,0,0,1;a10,0,5,1;t0,0;t1,0;", 1, 59, 60);
        otherThere("the second FELT", "s1,0,0,0;s1,10,10,0;s9,0,10,0;a0,0,0,1;a10,0,5,1;t0,0;t1,0;", 1, 49, 50);
        // the lowest of 60 goes, too: the last of 120 is the lowest, and PLAYED
        StageSieve last = Check.laid("s60,0,0,0;s59,0,0,0;s1,0,10,0;a0,0,0,1;a10,0,5,1;t0,0;t1,0;");
        due("the last of 120, drawn 59", there(last, dateOf(59, 119, 1), 119), 1);
        due("the last of 120, drawn 60", there(last, dateOf(60, 119, 1), 119), 0);
    }

    private static void theLowestWent() {
        bounds.sentence(24, "the lowest one that is there behind a STEP", "1: who does not stays");
        // the first PLAYED and went; the other's FELT is 5 then, PLAY 0
        otherThere("who PLAYED went", "s1,0,10,0;s1,0,0,0;a0,0,0,1;a0,5,0,1;t0,1;t1,0;", 1, 49, 50);
        StageSieve x = Check.laid("s1,0,10,0;s1,0,5,0;a0,0,0,1;a10,0,5,1;t0,1;t0,0;");
        for (int z = 0; z < 200; z++) {
            due("who PLAYED went by " + z, there(x, z, 1), draw(z, 1, 0) >= 50 && draw(z, 1, 1) < 50 ? 1 : 0);
        }
    }

    private static void sixOrFewer() {
        bounds.sentence(24, "behind how many STEPS 6 or fewer were there first (0: at once); none");
        String rest = "a0,0,10,1;t0,0;";
        due("1 at once", Check.laid(LEAST).night(0, 2), 0);
        due("6 at once", Check.laid("s6,0,0,0;a0,0,0,1;").night(0, 2), 0);
        due("6 at once, 0 then", Check.laid("s6,0,0,0;" + rest).night(0, 2), 0);
        due("7, no STEP", Check.laid("s7,0,0,0;a0,0,0,1;").night(0, 2), NONE);
        due("7 stay", Check.laid("s7,10,0,0;" + rest).night(0, 2), NONE);
        due("7 of 8 stay", Check.laid("s7,10,0,0;s1,0,0,0;" + rest).night(0, 2), NONE);
        due("6 of 7 stay", Check.laid("s6,10,0,0;s1,0,0,0;" + rest).night(0, 2), 1);
        due("6 of 120 stay", Check.laid("s60,0,0,0;s54,0,0,0;s6,10,0,0;" + rest).night(0, 2), 1);
        due("7 of 120 stay", Check.laid("s60,0,0,0;s53,0,0,0;s7,10,0,0;" + rest).night(0, 2), NONE);
        due("none stays", Check.laid("s60,0,0,0;" + rest).night(0, 2), 1);
        bounds.refused("night(z, 2) of none", x -> {
            Bounds.HOUSE.on(x);
            x.noRow();
        }, x -> due("night(0, 2)", x.night(0, 2), NONE));
    }

    private static void firstOfStepsToSix() {
        bounds.sentence(24, "6 or fewer were there first");
        // nobody does ask 0, all do ask 1
        String house = "s7,5,0,0;a5,0,10,1;a0,5,10,1;";
        due("behind the 8th", Check.laid(house + "t0,1;".repeat(7) + "t0,0;").night(0, 2), 8);
        due("behind the first of 8", Check.laid(house + "t0,0;".repeat(8)).night(0, 2), 1);
        due("behind the second of 3", Check.laid(house + "t1,0;t0,0;t1,0;").night(0, 2), 2);
        due("never in 8", Check.laid(house + "t1,0;".repeat(8)).night(0, 2), NONE);
    }

    // ---- promise 25: one

    private static void onePersons() {
        bounds.sentence(25, "the number of the i-th that is there", "BAD (i below 0)");
        bounds.numbers("one(#, 0)", Bounds.HOUSE, 0, 9999, (x, z) -> x.one(z, 0));
        bounds.taken("one(0, #)", Bounds.HOUSE, 0, (x, i) -> x.one(0, i));
        bounds.taken("one(0, #)", Bounds.HOUSE, Integer.MAX_VALUE, (x, i) -> x.one(0, i));
        bounds.bad("one(0, #)", Bounds.HOUSE, -1, (x, i) -> x.one(0, i));
        bounds.bad("one(0, #)", Bounds.HOUSE, Integer.MIN_VALUE, (x, i) -> x.one(0, i));
        StageSieve full = Check.laid("s60,0,0,0;s60,0,0,0;a0,0,0,1;");
        due("one(0, 0) of 120", full.one(0, 0), 0);
        due("one(0, 119) of 120", full.one(0, 119), 119);
        due("one(9999, 119) of 120", full.one(9999, 119), 119);
    }

    private static void notSoMany() {
        bounds.sentence(25, "NONE: not so many");
        StageSieve full = Check.laid("s60,0,0,0;s60,0,0,0;a0,0,0,1;");
        due("one(0, 120) of 120", full.one(0, 120), NONE);
        due("one(0, 2147483647) of 120", full.one(0, Integer.MAX_VALUE), NONE);
        StageSieve one = Check.laid(LEAST);
        due("one(0, 0) of 1", one.one(0, 0), 0);
        due("one(0, 1) of 1", one.one(0, 1), NONE);
        StageSieve nobody = Check.laid("s60,0,0,0;a0,0,0,1;t0,0;");
        due("one(0, 0) of nobody", nobody.one(0, 0), NONE);
        // three are there of five
        StageSieve three = Check.laid("s1,0,0,0;s3,10,0,0;s1,0,0,0;a0,0,10,1;t0,0;");
        due("one(5, 2) of three", three.one(5, 2), 3);
        due("one(5, 3) of three", three.one(5, 3), NONE);
        bounds.refused("one of not so many", Bounds.HOUSE, x -> due("one(0, 10)", x.one(0, 10), NONE));
    }

    private static void badAheadOfNone() {
        bounds.sentence(25, "Of several the first in this order", "NONE: not so many; BAD (i below 0)");
        Bounds.Calls nobody = x -> {
            Check.write(x, "s7,0,0,0;a0,0,0,1;t0,0;");
            x.lay();
        };
        bounds.bad("one(#, 0) of nobody", nobody, 10000, (x, z) -> x.one(z, 0));
        bounds.bad("one(#, 0) of nobody", nobody, -1, (x, z) -> x.one(z, 0));
        bounds.bad("one(0, #) of nobody", nobody, -1, (x, i) -> x.one(0, i));
        bounds.bad("night(#, 2) of none", Bounds.HOUSE, 10000, (x, z) -> x.night(z, 2));
    }

    // ---- promise 26: nights

    private static void nightsNumbers() {
        bounds.sentence(26, "NIGHTS: of ten those that leave just c. BAD", "how many leave just c (0 to 120)");
        bounds.numbers("nights(#, 3)", Bounds.HOUSE, 0, 9999, (x, z) -> x.nights(z, 3));
        bounds.numbers("nights(0, #)", Bounds.HOUSE, 0, 120, (x, c) -> x.nights(0, c));
        bounds.refused("nights(z, c)", Bounds.HOUSE, x -> due("nights(9, 3)", x.nights(9, 3) >= 0 ? 1 : 0, 1));
    }

    private static void modulo10000() {
        bounds.sentence(26, "of ten (z, z and 1, .. modulo 10000)");
        // one PERSON, there by draws below 50
        StageSieve x = Check.laid("s1,5,0,0;a0,0,10,1;t0,0;");
        boolean wraps = false;
        for (int z : new int[] {0, 1, 9980, 9989, 9990, 9991, 9992, 9993, 9994, 9995, 9996, 9997, 9998, 9999}) {
            int there = 0;
            int unwrapped = 0;
            for (int later = 0; later < 10; later++) {
                there += draw((z + later) % 10000, 0, 0) < 50 ? 1 : 0;
                unwrapped += draw(z + later, 0, 0) < 50 ? 1 : 0;
            }
            wraps |= there != unwrapped;
            due("nights(" + z + ", 1)", x.nights(z, 1), there);
            due("nights(" + z + ", 0)", x.nights(z, 0), 10 - there);
        }
        due("10000 would be another night than 0", wraps ? 1 : 0, 1);
    }

    private static void leastAndMostLeft() {
        bounds.sentence(26, "how many leave just c");
        StageSieve all = Check.laid("s60,0,0,0;s60,0,0,0;a0,0,0,1;");
        due("120 of 120", all.nights(0, 120), 10);
        due("119 of 120", all.nights(0, 119), 0);
        due("0 of 120", all.nights(0, 0), 0);
        all.step(0, 0);
        due("120 of none", all.nights(9999, 120), 0);
        due("1 of none", all.nights(9999, 1), 0);
        due("0 of none", all.nights(9999, 0), 10);
    }

    // ---- promise 27: keep

    private static void twoKept() {
        bounds.sentence(27, "KEPT: how many. FULL", "2 at most");
        StageSieve x = new StageSieve();
        due("the first", x.keep(), 1);
        due("the second", x.keep(), 2);
        due("a third", x.keep(), FULL);
        due("count(6)", x.count(6), 2);
        bounds.refused("keep() behind two", y -> {
            Bounds.HOUSE.on(y);
            y.keep();
            y.noRow();
            y.step(0, 1);
            y.forget();
        }, y -> {
            due("keep() behind two", y.keep(), FULL);
            due("keep() behind two, again", y.keep(), FULL);
        });
        x.back();
        due("in place of one taken back", x.keep(), 2);
        due("behind it", x.keep(), FULL);
    }

    private static void keptAsItWas() {
        bounds.sentence(27, "KEPT are THE ROW, told nights");
        StageSieve x = Check.laid("s4,3,0,0;a0,0,10,1;c5;");
        x.step(0, 0);
        x.tell(0, 0, 2, 1);
        x.keep();
        x.step(0, 1);
        x.tell(0, 0, 1, 0);
        due("count(3) goes on", x.count(3), 2);
        x.noRow();
        x.forget();
        for (int steps = 0; steps < 8; steps++) {
            x.step(0, 1);
        }
        due("back()", x.back(), 0);
        due("STEPS", x.count(3), 1);
        due("LEFT", x.left(0), 1200000);
        due("told nights", x.count(5), 1);
        due("man(0)", x.man(0), 5);
        due("man(1)", x.man(1), 8);
        x.keep();
        x.wipe();
        x.back();
        due("THE TEXT is not KEPT", x.count(4), 0);
    }

    private static void keptNights() {
        bounds.sentence(27, "KEPT are THE ROW, told nights", "of n (1 to 4) of a SORT d did an ASK (0 to n)");
        String house = "s4,3,0,0;s4,5,0,0;a0,0,10,1;a0,2,10,1;c5;";
        int[][] nights = {{1, 1, 4, 2}, {0, 1, 3, 2}, {1, 0, 2, 1}};
        for (int[] night : nights) {
            StageSieve x = Check.laid(house);
            x.tell(night[0], night[1], night[2], night[3]);
            long above = x.man(0);
            long below = x.man(1);
            x.keep();
            x.forget();
            x.tell(1 - night[0], 1 - night[1], 1, 1);
            due("another night is another man", x.man(1) == below ? 1 : 0, 0);
            x.back();
            due("man(0)", x.man(0), above);
            due("man(1)", x.man(1), below);
        }
    }

    private static void leastAndMostKept() {
        bounds.sentence(27, "KEPT are THE ROW, told nights: 2 at most");
        StageSieve x = Check.laid("s4,3,0,0;a0,0,10,1;" + "t0,0;".repeat(8));
        for (int nights = 0; nights < 3; nights++) {
            x.tell(0, 0, 4, 4);
        }
        x.keep();
        x.noRow();
        x.forget();
        due("an empty one KEPT", x.keep(), 2);
        x.step(0, 1);
        x.tell(0, 0, 1, 1);
        due("back()", x.back(), 1);
        due("STEPS of the empty one", x.count(3), 0);
        due("nights of the empty one", x.count(5), 0);
        due("LEFT by it", x.left(0), 4000000);
        due("man(1) by it", x.man(1), 10);
        due("back() again", x.back(), 0);
        due("STEPS of the full one", x.count(3), 8);
        due("nights of the full one", x.count(5), 3);
        // 4 times 0.3 to the 8-th: 262.44
        due("LEFT by it", x.left(0), 262);
        due("step behind 8", x.step(0, 0), FULL);
        due("tell behind 3", x.tell(0, 0, 1, 1), FULL);
    }

    // ---- promise 28: back

    private static void nothingToGoBackTo() {
        bounds.sentence(28, "NO", "nothing changes then");
        bounds.refused("back() with nothing KEPT", x -> {
            Bounds.HOUSE.on(x);
            x.back();
            x.step(1, 0);
            x.tell(0, 1, 4, 2);
        }, x -> {
            due("back()", x.back(), NO);
            due("back() again", x.back(), NO);
        });
        StageSieve laid = Bounds.made(Bounds.HOUSE);
        laid.lay();
        due("back() behind lay", laid.back(), NO);
        due("STEPS then", laid.count(3), 1);
    }

    private static void lastKept() {
        bounds.sentence(28, "As KEPT last (it is KEPT no more then): how many are left");
        StageSieve x = new StageSieve();
        x.step(0, 0);
        x.keep();
        x.step(0, 0);
        x.keep();
        x.step(0, 0);
        due("the first back()", x.back(), 1);
        due("count(6)", x.count(6), 1);
        due("STEPS of the second", x.count(3), 2);
        due("the second back()", x.back(), 0);
        due("count(6)", x.count(6), 0);
        due("STEPS of the first", x.count(3), 1);
        due("a third", x.back(), NO);
        due("STEPS still", x.count(3), 1);
        due("keep() then", x.keep(), 1);
    }

    private static void rowToldAnew() {
        bounds.sentence(28, "THE ROW may be told anew by STEPS");
        StageSieve x = Bounds.made(Bounds.HOUSE);
        x.back();
        due("step behind back()", x.step(0, 1), 2);
        x.noRow();
        for (int steps = 1; steps <= 8; steps++) {
            due("step behind noRow()", x.step(1, 0), steps);
        }
        due("step behind 8", x.step(1, 0), FULL);
    }

    // ---- promise 29: count

    private static void countNumbers() {
        bounds.sentence(29, "6 KEPT. BAD");
        bounds.numbers("count(#)", Bounds.HOUSE, 0, 6, (x, what) -> x.count(what));
    }

    private static void counts(String of, StageSieve x, int... due) {
        for (int what = 0; what < due.length; what++) {
            due(of + ", count(" + what + ")", x.count(what), due[what]);
        }
        due(of + ", count(7)", x.count(7), BAD);
    }

    private static void leastCounts() {
        bounds.sentence(29, "How many: 0 SORTS, 1 ASKS, 2 PEOPLE, 3 STEPS of THE ROW, 4 bytes of THE TEXT, 5 told nights, 6 KEPT");
        StageSieve x = Check.laid(LEAST);
        x.wipe();
        counts("none", x, 1, 1, 1, 0, 0, 0, 0);
        x.step(0, 0);
        x.write(1, 'c');
        x.tell(0, 0, 1, 1);
        x.keep();
        counts("one", x, 1, 1, 1, 1, 1, 1, 1);
    }

    private static void mostCounts() {
        bounds.sentence(29, "How many: 0 SORTS, 1 ASKS, 2 PEOPLE, 3 STEPS of THE ROW, 4 bytes of THE TEXT, 5 told nights, 6 KEPT");
        String text = "s20,1,1,1;".repeat(6) + "a1,1,1,1;".repeat(6) + "t0,0;".repeat(7);
        String men = "c1;".repeat((399 - text.length()) / 3);
        StageSieve x = Check.laid(text + men);
        x.write(399 - x.count(4), 0);
        x.tell(0, 0, 1, 1);
        x.tell(0, 0, 1, 1);
        x.keep();
        counts("one place less", x, 6, 6, 120, 7, 399, 2, 1);
        x.write(1, 0);
        x.step(0, 0);
        x.tell(0, 0, 1, 1);
        x.keep();
        counts("full", x, 6, 6, 120, 8, 400, 3, 2);
        x.write(1, 0);
        x.step(0, 0);
        x.tell(0, 0, 1, 1);
        x.keep();
        counts("refused", x, 6, 6, 120, 8, 400, 3, 2);
    }
}
