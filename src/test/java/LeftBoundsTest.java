/** The bounds that the document names, of promises 9 to 13: who is left, odds, the best row. */
public final class LeftBoundsTest {
    private static final int BAD = -1;
    private static final int NONE = -4;
    private static final int MILLION = 1000000;
    /** A hundredth of each is left by a STEP of those who do not, 99 hundredths by one of those who do. */
    private static final String HUNDREDTH = ",9,9,0;a0,0,0,1;";
    private static final Bounds bounds = new Bounds();

    /** Nobody does what is asked, and those who do are asked for. */
    private static final Bounds.Calls NOBODY_LEFT = x -> {
        Check.write(x, "s7,4,0,0;s3,5,0,0;a10,0,10,1;t0,0;c3;");
        x.lay();
        x.tell(0, 0, 1, 0);
        x.keep();
    };

    private static void due(String call, long got, long want) {
        bounds.due(call, got, want);
    }

    public static void main(String[] args) {
        sortsLeft();
        leastAndMostLeft();
        leftOnStage();
        cutStepByStep();
        all();

        sortsShared();
        noShare();
        shareCut();

        bentNumbers();
        leastAndMostBent();
        bentCut();
        noBent();

        oddsNumbers();
        noneAndTwelve();
        thirteenCountNoMore();
        oddsCut();
        sortBySort();

        bestNumbers();
        bestSteps();
        minutesTogether();
        minutesOfEachAsk();
        eachAskedAnew();
        noBest();
        oddsOfNoneAreOdds();
        firstOfSeveral();
        greatestNumber();
        inPlaceOfTheRow();
        badAheadOfNone();
        bounds.end();
    }

    /** A STEP that keeps who does, 0, or does not, 1, some times over. */
    private static void steps(StageSieve x, int keep, int times) {
        for (int time = 0; time < times; time++) {
            x.step(0, keep);
        }
    }

    // ---- promise 9: left

    private static void sortsLeft() {
        bounds.sentence(9, "LEFT of a SORT (-1: all). BAD");
        bounds.numbers("left(#)", Bounds.HOUSE, -1, 1, (x, sort) -> x.left(sort));
        StageSieve full = Check.laid("s1,1,1,1;".repeat(5) + "s2,1,1,1;a1,1,1,1;");
        due("left(5)", full.left(5), 2 * MILLION);
        due("left(6)", full.left(6), BAD);
        bounds.bad("left(#) with 0 LEFT", NOBODY_LEFT, 2, (x, sort) -> x.left(sort));
    }

    private static void leastAndMostLeft() {
        bounds.sentence(9, "N times 1000000", "that times DO (K 1: 100 less DO) by 100");
        due("one PERSON by no STEP", Check.laid("s1,0,0,0;a0,0,0,1;").left(0), MILLION);
        due("60 PEOPLE by no STEP", Check.laid("s60,0,0,0;a0,0,0,1;").left(0), 60 * MILLION);
        due("DO 0, K 0", Check.laid("s60,0,0,0;a0,0,0,1;t0,0;").left(0), 0);
        due("DO 0, K 1", Check.laid("s60,0,0,0;a0,0,0,1;t0,1;").left(0), 60 * MILLION);
        due("DO 100, K 0", Check.laid("s60,10,0,0;a0,0,0,1;t0,0;").left(0), 60 * MILLION);
        due("DO 100, K 1", Check.laid("s60,10,0,0;a0,0,0,1;t0,1;").left(0), 0);
        due("DO 0, K 1 eight times", Check.laid("s60,0,0,0;a0,0,0,1;" + "t0,1;".repeat(8)).left(0), 60 * MILLION);
        due("DO 0, K 0 ahead of seven others", Check.laid("s60,0,0,0;a0,0,0,1;t0,0;" + "t0,1;".repeat(7)).left(0), 0);
    }

    private static void leftOnStage() {
        bounds.sentence(9, "LEFT by THE ROW (on STAGE)");
        // FELT 2 by words, PLAY 5 by fear
        String house = "s1,3,4,2;a3,2,1,1;";
        due("does(0, 0, 0, 2)", Check.laid(house).does(0, 0, 0, 2), 60);
        due("K 0", Check.laid(house + "t0,0;").left(0), 600000);
        due("K 1", Check.laid(house + "t0,1;").left(0), 400000);
    }

    private static void cutStepByStep() {
        bounds.sentence(9, "STEP by STEP that times DO (K 1: 100 less DO) by 100, cut");
        StageSieve x = Check.laid("s1" + HUNDREDTH);
        int[] left = {MILLION, 10000, 100, 1, 0, 0, 0, 0, 0};
        for (int steps = 0; steps <= 8; steps++) {
            due("one PERSON, a hundredth " + steps + " times", x.left(0), left[steps]);
            x.step(0, 1);
        }
        StageSieve two = Check.laid("s2" + HUNDREDTH);
        steps(two, 1, 3);
        due("two millionths", two.left(0), 2);
        two.step(0, 0);
        due("1.98", two.left(0), 1);
        two.step(0, 0);
        due("0.99, not 1.96", two.left(0), 0);
    }

    private static void all() {
        bounds.sentence(9, "All LEFT: these together");
        due("120 PEOPLE", Check.laid("s60,0,0,0;s60,0,0,0;a0,0,0,1;").left(-1), 120 * MILLION);
        due("0 LEFT", Bounds.made(NOBODY_LEFT).left(-1), 0);
        // 0.99 of a millionth of each SORT is cut by itself
        StageSieve x = Check.laid("s1,9,9,0;".repeat(6) + "a0,0,0,1;t0,1;t0,1;t0,1;");
        due("six millionths", x.left(-1), 6);
        x.step(0, 0);
        due("six times 0.99", x.left(-1), 0);
    }

    // ---- promise 10: share

    private static void sortsShared() {
        bounds.sentence(10, "SHARE of a SORT", "BAD");
        bounds.numbers("share(#)", Bounds.HOUSE, 0, 1, (x, sort) -> x.share(sort));
        StageSieve full = Check.laid("s1,1,1,1;".repeat(5) + "s5,1,1,1;a1,1,1,1;");
        due("share(5)", full.share(5), 50000);
        due("share(6)", full.share(6), BAD);
    }

    private static void noShare() {
        bounds.sentence(10, "NONE; BAD", "Of several the first in this order");
        for (int sort = 0; sort < 2; sort++) {
            int of = sort;
            bounds.refused("share of 0 LEFT", NOBODY_LEFT, x -> due("share(" + of + ")", x.share(of), NONE));
        }
        bounds.bad("share(#) with 0 LEFT", NOBODY_LEFT, 2, (x, number) -> x.share(number));
        bounds.bad("share(#) with 0 LEFT", NOBODY_LEFT, -1, (x, number) -> x.share(number));
        StageSieve x = Check.laid("s1" + HUNDREDTH + "t0,1;t0,1;t0,1;");
        due("share(0) of one millionth", x.share(0), 100000);
        x.step(0, 1);
        due("share(0) of none", x.share(0), NONE);
    }

    private static void shareCut() {
        bounds.sentence(10, "100000 times what is LEFT of it by all LEFT, cut");
        StageSieve thirds = Check.laid("s1,1,1,1;s2,1,1,1;a0,0,0,1;");
        due("a third", thirds.share(0), 33333);
        due("two thirds", thirds.share(1), 66666);
        StageSieve few = Check.laid("s60,0,0,0;s59,0,0,0;s1,9,9,0;a0,0,0,1;t0,0;");
        due("nothing of it", few.share(0), 0);
        due("all of it", few.share(2), 100000);
        StageSieve most = Check.laid("s60,0,0,0;s60,0,0,0;a0,0,0,1;");
        due("60 of 120 PEOPLE", most.share(1), 50000);
        // one millionth beside 60 PEOPLE
        StageSieve least = Check.laid("s60,0,0,0;s1,9,9,0;a0,0,0,1;t0,1;t0,1;t0,1;");
        due("a millionth", least.left(1), 1);
        due("nearly nothing", least.share(1), 0);
        due("nearly all", least.share(0), 99999);
    }

    // ---- promise 11: bent

    private static void bentNumbers() {
        bounds.sentence(11, "BENT of all (what = 0), of those LEFT (1). NONE; BAD");
        bounds.numbers("bent(#)", Bounds.HOUSE, 0, 1, (x, what) -> x.bent(what));
    }

    private static void leastAndMostBent() {
        bounds.sentence(11, "the sum of N times B, by all, in thousandths");
        StageSieve least = Check.laid("s60,0,9,9;s60,0,0,0;a0,0,0,1;");
        StageSieve most = Check.laid("s60,10,9,9;s60,10,0,0;a0,0,0,1;t0,0;");
        for (int what = 0; what < 2; what++) {
            due("BENT 0 of 120, bent(" + what + ")", least.bent(what), 0);
            due("BENT 10 of 120, bent(" + what + ")", most.bent(what), 10000);
            due("one PERSON, bent(" + what + ")", Check.laid("s1,7,9,9;a0,0,0,1;").bent(what), 7000);
        }
    }

    private static void bentCut() {
        bounds.sentence(11, "in thousandths, cut; of those LEFT likewise");
        due("1 of 3", Check.laid("s1,1,0,0;s2,0,0,0;a0,0,0,1;").bent(0), 333);
        due("2 of 3", Check.laid("s2,1,0,0;s1,0,0,0;a0,0,0,1;").bent(0), 666);
        // 0.1 and 0.2 are left
        StageSieve x = Check.laid("s1,1,0,0;s1,2,0,0;a0,0,10,1;t0,0;");
        due("5 of 3, of those LEFT", x.bent(1), 1666);
        due("3 of 2, of all", x.bent(0), 1500);
    }

    private static void noBent() {
        bounds.sentence(11, "none (0 LEFT)", "NONE; BAD", "Of several the first in this order");
        bounds.refused("bent(1) of 0 LEFT", NOBODY_LEFT, x -> due("bent(1)", x.bent(1), NONE));
        due("bent(0) with 0 LEFT", Bounds.made(NOBODY_LEFT).bent(0), 4300);
        bounds.bad("bent(#) with 0 LEFT", NOBODY_LEFT, 2, (x, what) -> x.bent(what));
        bounds.bad("bent(#) with 0 LEFT", NOBODY_LEFT, -1, (x, what) -> x.bent(what));
        StageSieve x = Check.laid("s60,0,0,0;s1" + HUNDREDTH + "t0,1;t0,1;t0,1;");
        due("a millionth beside 60 PEOPLE", x.bent(1), 0);
        x.step(0, 0);
        due("nobody of either", x.bent(1), NONE);
        StageSieve alone = Check.laid("s1" + HUNDREDTH + "t0,1;t0,1;t0,1;");
        due("one millionth", alone.bent(1), 9000);
    }

    // ---- promise 12: odds

    private static void oddsNumbers() {
        bounds.sentence(12, "ODDS of just c (0 to 12) by THE ROW", "BAD");
        bounds.numbers("odds(#)", Bounds.HOUSE, 0, 12, (x, c) -> x.odds(c));
        bounds.numbers("odds(#) with 0 LEFT", NOBODY_LEFT, 0, 12, (x, c) -> x.odds(c));
    }

    private static void allOdds(String house, StageSieve x, int... due) {
        for (int c = 0; c <= 12; c++) {
            due(house + ", odds(" + c + ")", x.odds(c), c < due.length ? due[c] : 0);
        }
    }

    private static void noneAndTwelve() {
        bounds.sentence(12, "a million, of which all have 0 LEFT at first");
        allOdds("nobody LEFT", Bounds.made(NOBODY_LEFT), MILLION);
        allOdds("one for sure", Check.laid("s1,10,0,0;a0,0,0,1;t0,0;"), 0, MILLION);
        allOdds("twelve for sure", Check.laid("s12,0,0,0;a0,0,0,1;"), 0, 0, 0, 0, 0, 0, 0, 0, 0, 0, 0, 0, MILLION);
    }

    private static void thirteenCountNoMore() {
        bounds.sentence(12, "of those with k LEFT so far (k 0 to 12) the part",
            "have k and 1 then (13: they count no more), the others stay at k");
        allOdds("13 for sure", Check.laid("s13,0,0,0;a0,0,0,1;"));
        allOdds("120 for sure", Check.laid("s60,0,0,0;s60,0,0,0;a0,0,0,1;"));
        allOdds("twelve for sure and a half", Check.laid("s12,10,0,0;s1,5,0,0;a0,0,10,1;t0,0;"),
            0, 0, 0, 0, 0, 0, 0, 0, 0, 0, 0, 0, 500000);
        allOdds("a half and twelve for sure", Check.laid("s1,5,0,0;s12,10,0,0;a0,0,10,1;t0,0;"),
            0, 0, 0, 0, 0, 0, 0, 0, 0, 0, 0, 0, 500000);
        allOdds("13 halves", Check.laid("s13,5,0,0;a0,0,10,1;t0,0;"),
            123, 1587, 9522, 34912, 87281, 157104, 209472, 209473, 157105, 87280, 34912, 9521, 1586);
        allOdds("14 halves", Check.laid("s14,5,0,0;a0,0,10,1;t0,0;"),
            62, 855, 5554, 22217, 61097, 122192, 183288, 209473, 183289, 122192, 61096, 22217, 5553);
        allOdds("120 tenths", Check.laid("s60,1,0,0;s60,1,0,0;a0,0,10,1;t0,0;"),
            9, 47, 289, 1248, 4048, 10426, 22200, 40168, 63036, 87163, 107497, 119441, 120547);
    }

    private static void oddsCut() {
        bounds.sentence(12, "how many, times what is LEFT of its SORT by N, cut, by a million, cut");
        // a millionth each: of a million one, of 999999 none
        allOdds("two by a millionth", Check.laid("s2" + HUNDREDTH + "t0,1;t0,1;t0,1;"), 999999, 1);
        // 3 millionths of three, then 2.97, cut, by 3, cut
        StageSieve x = Check.laid("s3" + HUNDREDTH + "t0,1;t0,1;t0,1;t0,0;");
        due("2 millionths of three", x.left(0), 2);
        allOdds("less than a millionth each", x, MILLION);
        // 1530 millionths of seven are 218 of each: of a million 218, of 999782 217, ..
        StageSieve seven = Check.laid("s7,3,0,0;a0,0,10,1;" + "t0,0;".repeat(7));
        due("LEFT of seven", seven.left(0), 1530);
        long none = MILLION;
        for (int person = 0; person < 7; person++) {
            none -= none * 218 / MILLION;
        }
        due("LEFT by N is cut, odds(0)", seven.odds(0), none);
    }

    private static void sortBySort() {
        bounds.sentence(12, "parted PERSON by PERSON (SORT by SORT)");
        allOdds("three by 9, two by 10 hundredths", Check.laid("s3,9,1,0;s2,9,0,0;a0,0,0,1;t0,1;"),
            610393, 316749, 65692, 6808, 351, 7);
        allOdds("two by 10, three by 9 hundredths", Check.laid("s2,9,0,0;s3,9,1,0;a0,0,0,1;t0,1;"),
            610393, 316748, 65693, 6807, 352, 7);
    }

    // ---- promise 13: best

    private static void bestNumbers() {
        bounds.sentence(13, "BEST ROW of n STEPS (1 to 3), of m minutes (0 to 90) at most together", "NONE; BAD");
        bounds.numbers("best(#, 90, 1, -1)", Bounds.HOUSE, 1, 3, (x, n) -> x.best(n, 90, 1, -1));
        bounds.numbers("best(1, #, 1, -1)", Bounds.HOUSE, 0, 90, (x, minutes) -> x.best(1, minutes, 1, -1));
        bounds.numbers("best(1, 90, #, -1)", Bounds.HOUSE, 0, 12, (x, c) -> x.best(1, 90, c, -1));
    }

    private static void bestSteps() {
        bounds.sentence(13, "ODDS (i = -1), the number of its i-th STEP. NONE; BAD");
        for (int steps = 1; steps <= 3; steps++) {
            int n = steps;
            bounds.numbers("best(" + n + ", 90, 1, #)", Bounds.HOUSE, -1, n - 1, (x, i) -> x.best(n, 90, 1, i));
        }
    }

    private static void minutesTogether() {
        bounds.sentence(13, "of m minutes (0 to 90) at most together");
        StageSieve longest = Check.laid("s1,5,0,0;a0,0,10,30;");
        StageSieve shortest = Check.laid("s1,5,0,0;a0,0,10,1;");
        for (int n = 1; n <= 3; n++) {
            int odds = MILLION >> n;
            due(n + " STEPS of 30 in " + 30 * n, longest.best(n, 30 * n, 1, -1), odds);
            due(n + " STEPS of 30 in " + (30 * n - 1), longest.best(n, 30 * n - 1, 1, -1), NONE);
            due(n + " STEPS of 1 in " + n, shortest.best(n, n, 1, -1), odds);
            due(n + " STEPS of 1 in " + (n - 1), shortest.best(n, n - 1, 1, -1), NONE);
        }
        // of one PERSON half are left by ask 0 in 4 minutes, 9 tenths by ask 1 in 7
        StageSieve x = Check.laid("s1,5,0,0;a0,0,10,4;a4,0,10,7;");
        due("in 3", x.best(1, 3, 1, 0), NONE);
        due("in 4", x.best(1, 4, 1, 0), 0);
        due("in 6", x.best(1, 6, 1, 0), 0);
        due("in 7", x.best(1, 7, 1, 0), 3);
        due("two in 7", x.best(2, 7, 1, 0), NONE);
        due("two in 8", x.best(2, 8, 1, 1), 0);
        due("two in 10", x.best(2, 10, 1, 1), 0);
        due("two in 11, first", x.best(2, 11, 1, 0), 0);
        due("two in 11, second", x.best(2, 11, 1, 1), 3);
        due("two in 13, first", x.best(2, 13, 1, 0), 0);
        due("two in 14, first", x.best(2, 14, 1, 0), 3);
        due("three in 20, first", x.best(3, 20, 1, 0), 0);
        due("three in 21, first", x.best(3, 21, 1, 0), 3);
    }

    private static void minutesOfEachAsk() {
        bounds.sentence(13, "a STEP is numbered 2 ASK and K", "of m minutes (0 to 90) at most together");
        // those who do ask 0 are half, ask 5 all: the STEP of the last ASK that is short enough
        StageSieve x = Check.laid("s1,10,0,0;a5,0,10,1;a4,0,10,2;a3,0,10,4;a2,0,10,8;a1,0,10,16;a0,0,10,30;");
        int[] minutes = {1, 2, 4, 8, 16, 30};
        for (int ask = 0; ask < 6; ask++) {
            due("in " + minutes[ask], x.best(1, minutes[ask], 1, 0), 2 * ask);
            due("in " + (minutes[ask] - 1), x.best(1, minutes[ask] - 1, 1, 0), ask == 0 ? NONE : 2 * ask - 2);
        }
        // of two the first: what is left of 30 minutes is for the second
        due("two in 60", x.best(2, 60, 1, 0), 10);
        due("two in 59", x.best(2, 59, 1, 0), 8);
    }

    private static void eachAskedAnew() {
        bounds.sentence(13, "BEST ROW of n STEPS (1 to 3), of m minutes (0 to 90) at most together",
            "in place of THE ROW, ODDS of just c are greatest");
        // a half are left by one STEP, a quarter by two
        StageSieve x = Check.laid("s2,5,0,0;a0,0,10,5;");
        due("just 1", x.best(1, 90, 1, -1), 500000);
        due("just 2", x.best(1, 90, 2, -1), 250000);
        due("just 3", x.best(1, 90, 3, -1), 0);
        due("just 1 again", x.best(1, 90, 1, -1), 500000);
        due("by two STEPS", x.best(2, 90, 1, -1), 375000);
        due("by one again", x.best(1, 90, 1, -1), 500000);
        due("in 4 minutes", x.best(1, 4, 1, -1), NONE);
        due("in 90 again", x.best(1, 90, 1, -1), 500000);
    }

    private static void noBest() {
        bounds.sentence(13, "then the second, ..; none", "NONE");
        for (int steps = 1; steps <= 3; steps++) {
            int n = steps;
            bounds.refused("best(" + n + ", 0, 1, i)", Bounds.HOUSE, x -> {
                for (int i = -1; i < n; i++) {
                    due("best(" + n + ", 0, 1, " + i + ")", x.best(n, 0, 1, i), NONE);
                }
            });
        }
        StageSieve x = Check.laid("s1,5,0,0;a0,0,10,30;");
        due("in 90, then", x.best(3, 90, 1, 2), 0);
        due("none in 89", x.best(3, 89, 1, 2), NONE);
        due("in 90 again", x.best(3, 90, 1, 2), 0);
    }

    private static void oddsOfNoneAreOdds() {
        bounds.sentence(13, "of all rows of STEPS", "that by which, in place of THE ROW, ODDS of just c are greatest");
        StageSieve x = Check.laid("s3,5,0,0;a0,0,10,1;a0,0,10,1;");
        due("just 4 of 3, ODDS", x.best(3, 90, 4, -1), 0);
        for (int i = 0; i < 3; i++) {
            due("just 4 of 3, STEP " + i, x.best(3, 90, 4, i), 0);
        }
        due("just 3 of 3 for sure", Check.laid("s3,0,0,0;a0,0,0,1;").best(1, 1, 3, -1), MILLION);
        due("just 12 of 12 for sure", Check.laid("s12,0,0,0;a0,0,0,1;").best(3, 3, 12, 2), 1);
        due("13 for sure, just 12", Check.laid("s13,0,0,0;a0,0,0,1;").best(3, 3, 12, -1), 0);
    }

    private static void firstOfSeveral() {
        bounds.sentence(13, "of several the first by the number of its first STEP, then the second, ..");
        // all STEPS are alike: half are left
        StageSieve alike = Check.laid("s1,5,0,0;" + "a0,0,10,1;".repeat(6));
        for (int i = 0; i < 3; i++) {
            due("of all alike, STEP " + i, alike.best(3, 3, 1, i), 0);
        }
        // nobody does ask 5, a tenth do the others: nobody is left by any row with STEP 10
        StageSieve last = Check.laid("s1,9,0,0;" + "a8,0,10,1;".repeat(5) + "a9,0,10,1;");
        int[] due = {0, 0, 10};
        for (int n = 1; n <= 3; n++) {
            for (int i = 0; i < n; i++) {
                due("nobody by " + n + ", STEP " + i, last.best(n, 3, 0, i), due[i + 3 - n]);
            }
        }
        // whoever does one does not do the other: 0 then 3, 1 then 2, 2 then 1, 3 then 0 are one
        StageSieve pairs = Check.laid("s4,5,0,0;a0,0,10,1;a0,0,10,2;");
        due("of pairs, first", pairs.best(2, 4, 1, 0), 0);
        due("of pairs, second", pairs.best(2, 4, 1, 1), 0);
        due("of pairs in 3 minutes, second", pairs.best(2, 3, 1, 1), 0);
    }

    private static void greatestNumber() {
        bounds.sentence(13, "a STEP is numbered 2 ASK and K");
        StageSieve x = Check.laid("s1,9,0,0;" + "a8,0,10,1;".repeat(5) + "a9,0,10,1;");
        for (int n = 1; n <= 3; n++) {
            due("ODDS of one by " + n, x.best(n, 3, 1, -1), MILLION);
            for (int i = 0; i < n; i++) {
                due("one by " + n + ", STEP " + i, x.best(n, 3, 1, i), 11);
            }
        }
    }

    private static void inPlaceOfTheRow() {
        bounds.sentence(13, "in place of THE ROW");
        String house = "s1,5,0,0;a0,0,10,4;a4,0,10,7;";
        StageSieve without = Check.laid(house);
        StageSieve full = Check.laid(house + "t1,0;".repeat(8));
        for (int i = -1; i < 3; i++) {
            due("behind a row of 8, i " + i, full.best(3, 21, 1, i), without.best(3, 21, 1, i));
        }
        due("count(3) then", full.count(3), 8);
        bounds.refused("best", Bounds.HOUSE, x -> due("best(3, 90, 1, -1)", x.best(3, 90, 1, -1) > 0 ? 1 : 0, 1));
    }

    private static void badAheadOfNone() {
        bounds.sentence(13, "Of several the first in this order", "NONE; BAD");
        bounds.bad("best(3, 0, 1, #)", Bounds.HOUSE, 3, (x, i) -> x.best(3, 0, 1, i));
        bounds.bad("best(3, 0, 1, #)", Bounds.HOUSE, -2, (x, i) -> x.best(3, 0, 1, i));
        bounds.bad("best(3, 0, #, -1)", Bounds.HOUSE, 13, (x, c) -> x.best(3, 0, c, -1));
        bounds.bad("best(#, 0, 1, -1)", Bounds.HOUSE, 4, (x, n) -> x.best(n, 0, 1, -1));
    }
}
