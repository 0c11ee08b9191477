/** The bounds that the document names, of promises 21 to 23: told nights, a man of his. */
public final class ManBoundsTest {
    private static final int FULL = -3;
    private static final int NONE = -4;
    private static final Bounds bounds = new Bounds();

    /** The house with as many told nights as are taken. */
    private static final Bounds.Calls THREE_TOLD = x -> {
        Bounds.HOUSE.on(x);
        x.tell(0, 1, 4, 3);
    };

    private static void due(String call, long got, long want) {
        bounds.due(call, got, want);
    }

    public static void main(String[] args) {
        toldNumbers();
        zeroToN();
        threeNights();
        badAheadOfFull();

        forgotten();

        manParts();
        noNights();
        leastAndMostAhead();
        nightsOfEachD();
        noneDid();
        sortAndAskOfANight();
        tenthsCut();
        mostTenths();
        noMan();
        noManChangesNothing();
        threeNightsTogether();
        bounds.end();
    }

    // ---- promise 21: tell

    private static void toldNumbers() {
        bounds.sentence(21, "told nights (3 at most): of n (1 to 4) of a SORT d did an ASK (0 to n)", "BAD");
        bounds.numbers("tell(#, 0, 2, 1)", Bounds.HOUSE, 0, 1, (x, sort) -> x.tell(sort, 0, 2, 1));
        bounds.numbers("tell(0, #, 2, 1)", Bounds.HOUSE, 0, 1, (x, ask) -> x.tell(0, ask, 2, 1));
        bounds.numbers("tell(0, 0, #, 0)", Bounds.HOUSE, 1, 4, (x, n) -> x.tell(0, 0, n, 0));
        bounds.numbers("tell(0, 0, #, 1)", Bounds.HOUSE, 1, 4, (x, n) -> x.tell(0, 0, n, 1));
        StageSieve full = Check.laid("s1,1,1,1;".repeat(6) + "a1,1,1,1;".repeat(6));
        due("tell(5, 5, 4, 4)", full.tell(5, 5, 4, 4), 1);
    }

    private static void zeroToN() {
        bounds.sentence(21, "d did an ASK (0 to n)", "BAD");
        for (int all = 1; all <= 4; all++) {
            int n = all;
            bounds.numbers("tell(0, 0, " + n + ", #)", Bounds.HOUSE, 0, n, (x, d) -> x.tell(0, 0, n, d));
        }
    }

    private static void threeNights() {
        bounds.sentence(21, "A told night: how many. BAD; FULL: 3");
        StageSieve x = new StageSieve();
        for (int nights = 1; nights <= 3; nights++) {
            due("tell(0, 0, 1, 0)", x.tell(0, 0, 1, 0), nights);
        }
        due("tell behind 3", x.tell(0, 0, 1, 0), FULL);
        due("count(5) then", x.count(5), 3);
        bounds.refused("tell behind 3", THREE_TOLD, y -> {
            due("tell(0, 0, 1, 0) behind 3", y.tell(0, 0, 1, 0), FULL);
            due("tell(1, 1, 4, 4) behind 3", y.tell(1, 1, 4, 4), FULL);
        });
    }

    private static void badAheadOfFull() {
        bounds.sentence(21, "Of several the first in this order", "BAD; FULL: 3");
        bounds.bad("tell(#, 0, 1, 0) behind 3", THREE_TOLD, 2, (x, sort) -> x.tell(sort, 0, 1, 0));
        bounds.bad("tell(0, #, 1, 0) behind 3", THREE_TOLD, 2, (x, ask) -> x.tell(0, ask, 1, 0));
        bounds.bad("tell(0, 0, #, 0) behind 3", THREE_TOLD, 5, (x, n) -> x.tell(0, 0, n, 0));
        bounds.bad("tell(0, 0, #, 0) behind 3", THREE_TOLD, 0, (x, n) -> x.tell(0, 0, n, 0));
        bounds.bad("tell(0, 0, 1, #) behind 3", THREE_TOLD, 2, (x, d) -> x.tell(0, 0, 1, d));
    }

    // ---- promise 22: forget

    private static void forgotten() {
        bounds.sentence(22, "No told nights: how many were");
        StageSieve x = new StageSieve();
        due("of none", x.forget(), 0);
        x.tell(0, 0, 1, 0);
        due("of one", x.forget(), 1);
        due("man(1) then", x.man(1), 10);
        for (int nights = 1; nights <= 3; nights++) {
            due("tell then", x.tell(0, 0, 1, 0), nights);
        }
        due("tell behind 3 of them", x.tell(0, 0, 1, 0), FULL);
        due("of three", x.forget(), 3);
        due("of none again", x.forget(), 0);
        due("count(5)", x.count(5), 0);
        bounds.refused("forget() of no nights", y -> {
            Bounds.HOUSE.on(y);
            y.forget();
        }, y -> due("forget() twice", y.forget(), 0));
        StageSieve house = Bounds.made(Bounds.HOUSE);
        house.forget();
        due("THE ROW stays", house.count(3), 2);
        due("KEPT stays", house.count(6), 1);
    }

    // ---- promise 23: man

    private static void manParts() {
        bounds.sentence(23, "ODDS of a MAN: above (part = 0), below (1). NONE; BAD");
        bounds.numbers("man(#)", Bounds.HOUSE, 0, 1, (x, part) -> x.man(part));
    }

    /** A house with so many tenths ahead, of whom so many tenths do, and what is told of it. */
    private static StageSieve told(int ahead, int does, int... nights) {
        StageSieve x = Check.laid("s4," + does + ",0,0;a0,0,10,1;c" + ahead + ";");
        for (int night = 0; night + 1 < nights.length; night += 2) {
            x.tell(0, 0, nights[night], nights[night + 1]);
        }
        return x;
    }

    private static void odds(String of, StageSieve x, long above, long below) {
        due(of + ", above", x.man(0), above);
        due(of + ", below", x.man(1), below);
    }

    private static void noNights() {
        bounds.sentence(23, "C times the product of WITH of all nights");
        int[][] terms = {{0, 1}, {1, 10}, {1, 5}, {3, 10}, {2, 5}, {1, 2}, {3, 5}, {7, 10}, {4, 5}, {9, 10}, {1, 1}};
        for (int ahead = 0; ahead <= 10; ahead++) {
            odds("no night, C " + ahead, told(ahead, 3), terms[ahead][0], terms[ahead][1]);
        }
    }

    private static void leastAndMostAhead() {
        bounds.sentence(23, "C times the product of WITH of all nights, by that and (10 less C) times the product of WITHOUT together");
        odds("C 0", told(0, 3, 4, 2), 0, 1);
        odds("C 1", told(1, 3, 1, 1), 10, 37);
        odds("C 9", told(9, 3, 1, 1), 30, 31);
        odds("C 10", told(10, 3, 4, 2), 1, 1);
    }

    private static void nightsOfEachD() {
        bounds.sentence(23, "how often d of n, times p to the d-th, times (10 less p) to the (n less d)-th");
        // 3 tenths do, C 5: WITH by both together
        odds("0 of 1", told(5, 3, 1, 0), 0, 1);
        odds("1 of 1", told(5, 3, 1, 1), 10, 13);
        odds("1 of 2", told(5, 3, 2, 1), 5, 8);
        odds("2 of 3", told(5, 3, 3, 2), 20, 29);
        odds("0 of 4", told(5, 3, 4, 0), 0, 1);
        odds("1 of 4", told(5, 3, 4, 1), 5, 11);
        odds("2 of 4", told(5, 3, 4, 2), 5, 8);
        odds("3 of 4", told(5, 3, 4, 3), 5, 7);
        odds("4 of 4", told(5, 3, 4, 4), 10, 13);
    }

    private static void noneDid() {
        bounds.sentence(23, "times 10 (0, if d is 0)");
        for (int n = 1; n <= 4; n++) {
            odds("0 of " + n, told(9, 3, n, 0), 0, 1);
            odds("0 of " + n + ", nobody does", told(9, 0, n, 0), 0, 1);
        }
        odds("0 of 1 beside 4 of 4", told(9, 3, 4, 4, 1, 0), 0, 1);
    }

    private static void sortAndAskOfANight() {
        bounds.sentence(23, "of n (1 to 4) of a SORT d did an ASK (0 to n)");
        // the first SORT does ask 0 by 1 tenth, ask 5 by 3, the last by 5 and 7
        StageSieve x = Check.laid("s1,1,0,0;" + "s1,0,0,0;".repeat(4) + "s1,5,0,0;a0,0,10,1;" + "a9,0,10,1;".repeat(4) + "a0,2,10,1;c5;");
        int[][] cases = {{0, 0, 1}, {0, 5, 3}, {5, 0, 5}, {5, 5, 7}};
        int[][] terms = {{10, 11}, {10, 13}, {2, 3}, {10, 17}};
        for (int i = 0; i < 4; i++) {
            due("does", x.does(cases[i][0], cases[i][1], 0, 2), 10 * cases[i][2]);
            x.tell(cases[i][0], cases[i][1], 1, 1);
            odds("SORT " + cases[i][0] + " at ASK " + cases[i][1], x, terms[i][0], terms[i][1]);
            x.forget();
        }
    }

    private static void tenthsCut() {
        bounds.sentence(23, "p being DO (STAGE) by 10, cut");
        // the last hundredths that are a tenth, those that are nine
        StageSieve few = Check.laid("s4,1,1,0;a0,0,0,1;c5;");
        due("DO", few.does(0, 0, 0, 2), 19);
        few.tell(0, 0, 1, 1);
        odds("19 hundredths", few, 10, 11);
        StageSieve most = Check.laid("s4,9,9,0;a0,0,0,1;c5;");
        due("DO", most.does(0, 0, 0, 2), 99);
        most.tell(0, 0, 1, 1);
        odds("99 hundredths", most, 10, 19);
        StageSieve words = Check.laid("s4,0,0,3;a3,6,2,1;c5;");
        due("DO on the stage", words.does(0, 0, 0, 2), 37);
        due("DO plainly asked", words.does(0, 0, 1, 2), 0);
        words.tell(0, 0, 1, 1);
        odds("37 hundredths on the stage", words, 10, 13);
    }

    private static void mostTenths() {
        bounds.sentence(23, "times p to the d-th, times (10 less p) to the (n less d)-th, p being DO (STAGE) by 10, cut");
        odds("nobody does, 1 of 1", told(5, 0, 1, 1), 1, 1);
        odds("nobody does, 1 of 4", told(1, 0, 4, 1), 1, 1);
        odds("all do, 1 of 1", told(5, 10, 1, 1), 1, 2);
        odds("all do, 4 of 4", told(5, 10, 4, 4), 1, 2);
        odds("all do, 4 of 4 three times", told(1, 10, 4, 4, 4, 4, 4, 4), 1, 10);
    }

    private static void noMan() {
        bounds.sentence(23, "none (that is 0)");
        odds("C 10, 0 of 1", told(10, 3, 1, 0), NONE, NONE);
        odds("C 0, nobody does, 1 of 1", told(0, 0, 1, 1), NONE, NONE);
        odds("C 5, nobody does, 2 of 2", told(5, 0, 2, 2), NONE, NONE);
        odds("C 5, all do, 0 of 1", told(5, 10, 1, 0), NONE, NONE);
        odds("C 5, all do, 3 of 4", told(5, 10, 4, 3), NONE, NONE);
        odds("C 5, nobody does, 1 of 1 and 0 of 1", told(5, 0, 1, 1, 1, 0), NONE, NONE);
    }

    private static void noManChangesNothing() {
        bounds.sentence(23, "NONE; BAD", "Of several the first in this order");
        Bounds.Calls none = x -> {
            Check.write(x, "s4,0,0,0;s3,4,4,4;a0,0,10,1;t0,1;c5;");
            x.lay();
            x.tell(0, 0, 2, 2);
            x.keep();
            x.tell(1, 0, 3, 1);
        };
        bounds.refused("man(part) of none", none, x -> {
            due("man(0)", x.man(0), NONE);
            due("man(1)", x.man(1), NONE);
        });
        bounds.bad("man(#) of none", none, 2, (x, part) -> x.man(part));
        bounds.bad("man(#) of none", none, -1, (x, part) -> x.man(part));
        StageSieve x = Bounds.made(none);
        x.forget();
        odds("forgotten then", x, 1, 2);
    }

    private static void threeNightsTogether() {
        bounds.sentence(23, "the product of WITH of all nights", "in lowest terms");
        // 9 tenths do: 270 to 486 each, 5 to 9
        odds("2 of 4, three times", told(1, 9, 4, 2, 4, 2, 4, 2), 125, 6686);
        // 1, 2, 3 of 4: 10, 20, 30 to 12 each
        odds("1, 2 and 3 of 4", told(5, 3, 4, 1, 4, 2, 4, 3), 125, 161);
    }
}
