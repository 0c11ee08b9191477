/** The bounds that the document names, of promises 14 to 20: felt or played, words, harm, the scale, relief. */
public final class FeltBoundsTest {
    private static final int NONE = -4;
    private static final Bounds bounds = new Bounds();

    /** Nobody does what is asked, in no MODE. */
    private static final Bounds.Calls NOBODY_DOES = x -> {
        Check.write(x, "s7,0,0,0;s3,0,0,0;a10,0,10,1;t0,1;c3;");
        x.lay();
        x.tell(0, 0, 1, 0);
        x.keep();
    };

    private static void due(String call, long got, long want) {
        bounds.due(call, got, want);
    }

    public static void main(String[] args) {
        feltNumbers();
        feltOfNone();
        feltInLowestTerms();

        wordsAsks();
        wordsCut();
        leastAndMostWords();

        harmNumbers();
        leastAndMostHarm();
        lowestHarmed();

        peopleParts();
        noPeoplesPart();
        leastAndMostPeoplesPart();
        peoplesPartInLowestTerms();

        tellsOfOneAsk();
        lowestThatTells();
        tellsAsFraction();
        bothZero();

        reliefNumbers();
        reliefCut();
        sugarCut();

        worthNumbers();
        greaterByJustQ();
        worthBits();
        bounds.end();
    }

    // ---- promise 14: felt

    private static void feltNumbers() {
        bounds.sentence(14, "FELT ones of those that do: above (part = 0), below (1). NONE; BAD");
        bounds.numbers("felt(#, 0, 1)", Bounds.HOUSE, 0, 1, (x, ask) -> x.felt(ask, 0, 1));
        bounds.numbers("felt(0, #, 1)", Bounds.HOUSE, 0, 3, (x, mode) -> x.felt(0, mode, 1));
        bounds.numbers("felt(0, 0, #)", Bounds.HOUSE, 0, 1, (x, part) -> x.felt(0, 0, part));
    }

    private static void feltOfNone() {
        bounds.sentence(14, "by that of N times DO, in lowest terms; none", "NONE; BAD", "Of several the first in this order");
        for (int m = 0; m < 4; m++) {
            int mode = m;
            bounds.refused("felt(0, " + mode + ", part) of nobody", NOBODY_DOES, x -> {
                due("felt(0, " + mode + ", 0)", x.felt(0, mode, 0), NONE);
                due("felt(0, " + mode + ", 1)", x.felt(0, mode, 1), NONE);
            });
        }
        bounds.bad("felt(0, 0, #) of nobody", NOBODY_DOES, 2, (x, part) -> x.felt(0, 0, part));
        bounds.bad("felt(0, #, 0) of nobody", NOBODY_DOES, 4, (x, mode) -> x.felt(0, mode, 0));
        bounds.bad("felt(#, 0, 0) of nobody", NOBODY_DOES, 1, (x, ask) -> x.felt(ask, 0, 0));
        // one of 120 plays a tenth on the stage, nobody plainly
        StageSieve x = Check.laid("s60,0,0,0;s59,0,0,0;s1,0,0,1;a10,0,0,1;");
        due("one does, above", x.felt(0, 0, 0), 0);
        due("one does, below", x.felt(0, 0, 1), 1);
        due("plainly nobody does", x.felt(0, 1, 0), NONE);
        due("as if all do, above", x.felt(0, 2, 0), 0);
        due("as if all do, below", x.felt(0, 2, 1), 1);
        due("alone nobody does", x.felt(0, 3, 1), NONE);
    }

    private static void feltInLowestTerms() {
        bounds.sentence(14, "by that of N times DO, in lowest terms");
        StageSieve all = Check.laid("s60,10,10,10;s60,10,0,0;a0,0,0,1;");
        due("all feel it, above", all.felt(0, 0, 0), 1);
        due("all feel it, below", all.felt(0, 0, 1), 1);
        // FELT 9 and 8, PLAY 9: 5400 and 4720 of 5940 and 5782
        StageSieve x = Check.laid("s60,9,9,0;s59,8,9,0;a0,0,0,1;");
        due("10120 of 11722, above", x.felt(0, 0, 0), 5060);
        due("10120 of 11722, below", x.felt(0, 0, 1), 5861);
        StageSieve few = Check.laid("s1,1,1,0;a0,0,0,1;");
        due("10 of 19, above", few.felt(0, 0, 0), 10);
        due("10 of 19, below", few.felt(0, 0, 1), 19);
    }

    // ---- promise 15: words

    private static void wordsAsks() {
        bounds.sentence(15, "WORDS ADD and 1000. BAD");
        bounds.numbers("words(#)", Bounds.HOUSE, 0, 1, (x, ask) -> x.words(ask));
    }

    private static void wordsCut() {
        bounds.sentence(15, "by 100, cut towards 0");
        // FELT 9, PLAY by fear alone: 9 hundredths of each of eleven, 1 of one more
        due("99 hundredths", Check.laid("s11,9,0,9;a0,0,0,1;").words(0), 1000);
        due("100 hundredths", Check.laid("s11,9,0,9;s1,9,0,1;a0,0,0,1;").words(0), 1001);
        due("199 hundredths", Check.laid("s22,9,0,9;s1,9,0,1;a0,0,0,1;").words(0), 1001);
        due("200 hundredths", Check.laid("s22,9,0,9;s2,9,0,1;a0,0,0,1;").words(0), 1002);
    }

    private static void leastAndMostWords() {
        bounds.sentence(15, "WORDS ADD and 1000");
        due("nothing", Check.laid("s60,10,10,0;s60,0,0,0;a10,0,10,1;").words(0), 1000);
        due("one of 120", Check.laid("s1,0,0,10;s60,0,0,0;s59,0,0,0;a0,0,0,1;").words(0), 1001);
        due("all of 120 by words", Check.laid("s60,0,0,0;s60,0,0,0;a0,10,0,1;").words(0), 1120);
        due("all of 120 by fear", Check.laid("s60,0,0,10;s60,0,0,10;a0,0,0,1;").words(0), 1120);
    }

    // ---- promise 16: harm

    private static void harmNumbers() {
        bounds.sentence(16, "HARM and 100 (what = 0), the SORT (1). BAD");
        bounds.numbers("harm(#, 0)", Bounds.HOUSE, 0, 1, (x, ask) -> x.harm(ask, 0));
        bounds.numbers("harm(0, #)", Bounds.HOUSE, 0, 1, (x, what) -> x.harm(0, what));
    }

    private static void leastAndMostHarm() {
        bounds.sentence(16, "the greatest, over SORTS, of DO on STAGE less DO PLAIN");
        StageSieve none = Check.laid("s60,10,10,10;s60,0,10,0;a0,0,0,1;");
        due("none", none.harm(0, 0), 100);
        StageSieve all = Check.laid("s1,0,0,0;a0,10,0,1;");
        due("all", all.harm(0, 0), 200);
        due("one hundredth", Check.laid("s1,9,0,1;a0,0,0,1;").harm(0, 0), 101);
        due("of one in 120, not the sum", Check.laid("s60,9,0,1;s60,9,0,2;a0,0,0,1;").harm(0, 0), 102);
    }

    private static void lowestHarmed() {
        bounds.sentence(16, "the SORT, the lowest");
        due("none harmed", Check.laid("s1,10,0,0;s2,10,0,0;a0,0,0,1;").harm(0, 1), 0);
        due("all alike", Check.laid("s1,0,0,5;".repeat(6) + "a0,0,0,1;").harm(0, 1), 0);
        due("the last", Check.laid("s1,0,0,5;".repeat(5) + "s1,0,0,6;a0,0,0,1;").harm(0, 1), 5);
        due("the last two", Check.laid("s1,0,0,5;".repeat(4) + "s1,0,0,6;s9,0,0,6;a0,0,0,1;").harm(0, 1), 4);
        due("the greatest of a greater one", Check.laid("s1,9,0,1;s60,9,0,0;a0,0,0,1;").harm(0, 1), 0);
    }

    // ---- promise 17: people

    private static void peopleParts() {
        bounds.sentence(17, "PEOPLE'S PART: above (part = 0), below (1). NONE; BAD");
        bounds.numbers("people(#)", Bounds.HOUSE, 0, 1, (x, part) -> x.people(part));
    }

    private static void noPeoplesPart() {
        bounds.sentence(17, "none (both 0)", "NONE; BAD", "Of several the first in this order");
        bounds.refused("people(part) of nobody that does", NOBODY_DOES, x -> {
            due("people(0)", x.people(0), NONE);
            due("people(1)", x.people(1), NONE);
        });
        bounds.bad("people(#) of nobody that does", NOBODY_DOES, 2, (x, part) -> x.people(part));
        bounds.bad("people(#) of nobody that does", NOBODY_DOES, -1, (x, part) -> x.people(part));
        StageSieve all = Check.laid("s60,10,0,0;s60,0,10,0;a0,0,0,1;a0,0,0,1;");
        due("all do all", all.people(0), NONE);
        due("all do all, below", all.people(1), NONE);
    }

    private static void leastAndMostPeoplesPart() {
        bounds.sentence(17, "BETWEEN by both together");
        StageSieve one = Check.laid("s1,5,0,0;a0,0,10,1;");
        due("BETWEEN 0, above", one.people(0), 0);
        due("BETWEEN 0, below", one.people(1), 1);
        StageSieve sure = Check.laid("s60,10,0,0;s60,0,0,0;" + "a0,0,10,1;".repeat(6));
        due("WITHIN 0, above", sure.people(0), 1);
        due("WITHIN 0, below", sure.people(1), 1);
        StageSieve two = Check.laid("s1,10,0,0;s1,0,0,0;a0,0,10,1;");
        due("WITHIN 0 of two, above", two.people(0), 1);
        due("WITHIN 0 of two, below", two.people(1), 1);
    }

    private static void peoplesPartInLowestTerms() {
        bounds.sentence(17, "in lowest terms");
        StageSieve most = Check.laid("s60,10,0,0;s60,1,0,0;" + "a0,0,10,1;".repeat(6));
        due("1049760000 of 1088640000, above", most.people(0), 27);
        due("1049760000 of 1088640000, below", most.people(1), 28);
        // 99 hundredths and 10 of six asks, then 97 of the last
        String sorts = "s60,9,9,0;s59,1,0,0;";
        StageSieve x = Check.laid(sorts + "a0,0,0,1;".repeat(6));
        due("1009452240 of 1051606800, above", x.people(0), 467339);
        due("1009452240 of 1051606800, below", x.people(1), 486855);
        StageSieve y = Check.laid(sorts + "a0,0,0,1;".repeat(5) + "a0,0,2,1;");
        due("1001904960 of 1045430400, above", y.people(0), 149093);
        due("1001904960 of 1045430400, below", y.people(1), 155570);
    }

    // ---- promise 18: tells

    private static void tellsOfOneAsk() {
        bounds.sentence(18, "the ASK without which (of two at least)", "none (one ASK)");
        due("of one", new StageSieve().tells(), NONE);
        bounds.refused("tells() of one", NOBODY_DOES, x -> due("tells()", x.tells(), NONE));
        due("of two", Check.laid("s5,5,0,0;a0,0,0,1;a0,0,0,1;").tells(), 0);
    }

    private static void lowestThatTells() {
        bounds.sentence(18, "the lowest");
        String parts = "a0,0,10,1;";
        String alike = "a10,0,10,1;";
        String sorts = "s5,1,0,0;s5,9,0,0;";
        due("all alike", Check.laid(sorts + parts.repeat(6)).tells(), 0);
        for (int telling = 0; telling < 6; telling++) {
            StageSieve x = Check.laid(sorts + alike.repeat(telling) + parts + alike.repeat(5 - telling));
            due("ask " + telling, x.tells(), telling);
        }
        // without either one of those that part there is the other
        StageSieve two = Check.laid(sorts + alike + parts + alike + parts);
        due("the first of two", two.tells(), 1);
    }

    private static void tellsAsFraction() {
        bounds.sentence(18, "the ASK without which (of two at least) PEOPLE'S PART is least (as a fraction");
        // without ask 0: 400 of 9600; without ask 1: 100 of 1900
        due("1 of 24 and 1 of 19", Check.laid("s1,5,0,0;s1,7,0,0;a6,0,10,1;a0,0,10,1;").tells(), 0);
        due("1 of 19 and 1 of 24", Check.laid("s1,5,0,0;s1,7,0,0;a0,0,10,1;a6,0,10,1;").tells(), 1);
        // without ask 0: 1; without ask 1: 9 of 11
        due("1 and 9 of 11", Check.laid("s1,0,0,0;s1,10,0,0;a1,0,10,1;a0,0,10,1;").tells(), 1);
        due("9 of 11 and 1", Check.laid("s1,0,0,0;s1,10,0,0;a0,0,10,1;a1,0,10,1;").tells(), 0);
        // 1 of 16, 800 of 22400, 200 of 5600
        String sorts = "s1,0,0,0;s2,2,0,0;";
        due("1 of 28 twice", Check.laid(sorts + "a2,0,10,1;a1,0,10,1;a0,4,10,1;").tells(), 1);
        due("1 of 28 twice, the other first", Check.laid(sorts + "a0,4,10,1;a2,0,10,1;a1,0,10,1;").tells(), 0);
    }

    private static void bothZero() {
        bounds.sentence(18, "0, if both are 0");
        String sorts = "s5,0,0,0;s5,9,0,0;";
        String nobody = "a10,0,10,1;";
        String parts = "a0,0,10,1;";
        String alike = "a9,5,5,1;";
        due("both 0 without the last", Check.laid(sorts + nobody + parts).tells(), 1);
        due("both 0 without the first", Check.laid(sorts + parts + nobody).tells(), 0);
        due("both 0 without either", Check.laid(sorts + nobody + nobody).tells(), 0);
        // who feels the one does not play the other: both 0 of all, 1 without either
        due("both 0 of all", Check.laid("s1,10,0,0;s1,0,10,0;a0,0,10,1;a10,0,0,1;").tells(), 0);
        // all play a half of ask alike: BETWEEN 0 of it, as of nothing
        String players = "s5,0,10,0;s5,0,10,0;";
        due("0 of some, then both 0", Check.laid(players + nobody + alike).tells(), 0);
        due("both 0, then 0 of some", Check.laid(players + alike + nobody).tells(), 0);
    }

    // ---- promise 19: relief

    private static void reliefNumbers() {
        bounds.sentence(19, "RELIEF (what = 0), by sugar (1). BAD");
        bounds.numbers("relief(#, 0, 0)", Bounds.HOUSE, 0, 1, (x, sort) -> x.relief(sort, 0, 0));
        bounds.numbers("relief(#, 0, 1)", Bounds.HOUSE, 0, 1, (x, sort) -> x.relief(sort, 0, 1));
        bounds.numbers("relief(0, #, 0)", Bounds.HOUSE, 0, 1, (x, ask) -> x.relief(0, ask, 0));
        bounds.numbers("relief(0, #, 1)", Bounds.HOUSE, 0, 1, (x, ask) -> x.relief(0, ask, 1));
        bounds.numbers("relief(0, 0, #)", Bounds.HOUSE, 0, 1, (x, what) -> x.relief(0, 0, what));
    }

    private static StageSieve inPain(int pain, int sugar, int felt) {
        return Check.laid("s1," + felt + ",10,10;a0,0,0,1;p" + pain + "," + sugar + ";");
    }

    private static void reliefCut() {
        bounds.sentence(19, "RELIEF of a SORT at an ASK: PAIN times FELT (STAGE) by 20, cut");
        int[][] cases = {{0, 10, 0}, {99, 0, 0}, {19, 1, 0}, {20, 1, 1}, {1, 10, 0}, {2, 10, 1}, {39, 1, 1}, {40, 1, 2}, {99, 10, 49},
            {98, 10, 49}, {97, 10, 48}};
        for (int[] c : cases) {
            due("PAIN " + c[0] + " FELT " + c[1], inPain(c[0], 10, c[1]).relief(0, 0, 0), c[2]);
        }
    }

    private static void sugarCut() {
        bounds.sentence(19, "by sugar PAIN times S by 10, cut");
        int[][] cases = {{0, 10, 0}, {99, 0, 0}, {9, 1, 0}, {10, 1, 1}, {1, 9, 0}, {1, 10, 1}, {19, 1, 1}, {20, 1, 2}, {99, 10, 99},
            {99, 9, 89}};
        for (int[] c : cases) {
            due("PAIN " + c[0] + " S " + c[1], inPain(c[0], c[1], 10).relief(0, 0, 1), c[2]);
        }
    }

    // ---- promise 20: worth

    private static void worthNumbers() {
        bounds.sentence(20, "WORTH. BAD", "greater by q (0 to 99) or more");
        bounds.numbers("worth(#, 0)", Bounds.HOUSE, 0, 1, (x, ask) -> x.worth(ask, 0));
        bounds.numbers("worth(0, #)", Bounds.HOUSE, 0, 99, (x, q) -> x.worth(0, q));
    }

    private static void greaterByJustQ() {
        bounds.sentence(20, "whose RELIEF is greater by q (0 to 99) or more");
        // RELIEF 49, sugar 0
        StageSieve most = inPain(99, 0, 10);
        due("greater by 49, q 48", most.worth(0, 48), 1);
        due("greater by 49, q 49", most.worth(0, 49), 1);
        due("greater by 49, q 50", most.worth(0, 50), 0);
        due("greater by 49, q 99", most.worth(0, 99), 0);
        // RELIEF 25, sugar 24, 25, 26
        due("greater by 1, q 1", inPain(50, 5, 10).relief(0, 0, 1), 25);
        due("as great, q 0", inPain(50, 5, 10).worth(0, 0), 1);
        due("as great, q 1", inPain(50, 5, 10).worth(0, 1), 0);
        due("greater by 5, q 5", inPain(50, 4, 10).worth(0, 5), 1);
        due("greater by 5, q 6", inPain(50, 4, 10).worth(0, 6), 0);
        // RELIEF 1, sugar 2
        due("less by 1, q 0", inPain(20, 1, 1).worth(0, 0), 0);
        due("no PAIN, q 0", inPain(0, 10, 10).worth(0, 0), 1);
    }

    private static void worthBits() {
        bounds.sentence(20, "SORTS (bits)");
        String rest = "a0,0,0,1;p40,0;";
        due("all six", Check.laid("s1,10,0,0;".repeat(6) + rest).worth(0, 20), 63);
        due("none of six", Check.laid("s1,10,0,0;".repeat(6) + rest).worth(0, 21), 0);
        due("the last of six", Check.laid("s1,0,0,0;".repeat(5) + "s1,10,0,0;" + rest).worth(0, 20), 32);
        due("the first of six", Check.laid("s1,10,0,0;" + "s1,0,0,0;".repeat(5) + rest).worth(0, 20), 1);
        due("RELIEF 20, 18, 16", Check.laid("s1,10,0,0;s1,9,0,0;s1,8,0,0;" + rest).worth(0, 18), 3);
    }
}
