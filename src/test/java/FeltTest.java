/** Promises 14 to 20: felt or played. */
public final class FeltTest {
    private static final Check check = new Check();

    private static void due(String call, long got, long want) {
        check.due(call, got, want);
    }

    public static void main(String[] args) {
        felt();
        words();
        harm();
        people();
        tells();
        relief();
        worth();
        check.end();
    }

    private static void felt() {
        // stage: felt 7 and 2, play 3 and 5: done 79 and 60; plain: felt 5 and 0, play 0 and 1: done 50 and 10
        StageSieve x = Check.laid("s4,8,3,4;s6,3,5,4;a3,2,4,5;");
        due("14: above", x.felt(0, 0, 0), 100);
        due("14: below", x.felt(0, 0, 1), 169);
        due("14: plain, above", x.felt(0, 1, 0), 10);
        due("14: plain, below", x.felt(0, 1, 1), 13);
        due("14: as if, above", x.felt(0, 2, 0), 0);
        due("14: as if, below", x.felt(0, 2, 1), 1);
        due("14: alone, above", x.felt(0, 3, 0), 1);
        due("14: alone, below", x.felt(0, 3, 1), 1);
        StageSieve none = Check.laid("s4,0,0,0;a10,0,10,5;");
        for (int mode = 0; mode < 4; mode++) {
            due("14: none, mode " + mode, none.felt(0, mode, 0), -4);
        }
        due("14: bad ahead of none", none.felt(0, 0, 2), -1);
        due("14: ask", x.felt(1, 0, 0), -1);
        due("14: ask below", x.felt(-1, 0, 0), -1);
        due("14: mode", x.felt(0, 4, 0), -1);
        due("14: mode below", x.felt(0, -1, 0), -1);
        due("14: part", x.felt(0, 0, 2), -1);
        due("14: part below", x.felt(0, 0, -1), -1);
    }

    private static void words() {
        // 79 less 50 of 4, 60 less 10 of 6: 416
        StageSieve x = Check.laid("s4,8,3,4;s6,3,5,4;a3,2,4,5;a10,0,10,1;");
        due("15: cut", x.words(0), 1004);
        due("15: nothing", x.words(1), 1000);
        due("15: ask", x.words(2), -1);
        due("15: ask below", x.words(-1), -1);
        due("15: 90 hundredths", Check.laid("s9,3,0,1;a3,0,0,1;").words(0), 1000);
        due("15: 100 hundredths", Check.laid("s9,3,0,1;s1,3,9,9;a3,0,0,1;").words(0), 1001);
        due("15: 190 hundredths", Check.laid("s9,3,0,1;s1,3,0,10;a3,0,0,1;").words(0), 1001);
        StageSieve all = Check.laid("s60,0,0,10;s60,0,0,10;a0,0,0,1;");
        due("15: everybody", all.words(0), 1120);
    }

    private static void harm() {
        StageSieve x = Check.laid("s4,8,3,4;s6,3,5,4;s1,3,5,4;a3,2,4,5;a10,0,10,1;");
        due("16: greatest", x.harm(0, 0), 100 + 60 - 10);
        due("16: its sort, the lowest", x.harm(0, 1), 1);
        due("16: none harmed", x.harm(1, 0), 100);
        due("16: none harmed, the lowest", x.harm(1, 1), 0);
        due("16: ask", x.harm(2, 0), -1);
        due("16: ask below", x.harm(-1, 0), -1);
        due("16: what", x.harm(0, 2), -1);
        due("16: what below", x.harm(0, -1), -1);
    }

    private static void people() {
        // does 50, 20 and 90, 60: means 70 and 150; 50 x 50 + 20 x 80 = 4100, 90 x 10 + 60 x 40 = 3300
        StageSieve x = Check.laid("s2,5,0,0;s3,9,0,0;a0,0,10,1;a3,0,10,1;");
        long between = 5L * (2 * 70 * 70 + 3 * 150 * 150) - 590L * 590;
        long both = between + 5L * (2 * 4100 + 3 * 3300);
        due("17: between", between, 38400);
        due("17: both", both, 128900);
        due("17: above", x.people(0), 384);
        due("17: below", x.people(1), 1289);
        StageSieve alike = Check.laid("s2,5,0,0;s3,5,0,0;a0,0,10,1;");
        due("17: no people in it, above", alike.people(0), 0);
        due("17: no people in it, below", alike.people(1), 1);
        StageSieve sure = Check.laid("s2,0,0,0;s3,10,0,0;a5,5,10,1;");
        due("17: people alone, above", sure.people(0), 1);
        due("17: people alone, below", sure.people(1), 1);
        StageSieve none = Check.laid("s2,0,0,0;s3,0,0,0;a10,0,10,1;");
        due("17: none, above", none.people(0), -4);
        due("17: none, below", none.people(1), -4);
        due("17: bad ahead of none", none.people(2), -1);
        due("17: part below", x.people(-1), -1);
        StageSieve great = Check.laid("s60,0,0,0;s60,10,0,0;" + "a5,5,10,1;".repeat(6));
        due("17: the greatest", great.people(0), 1);
        due("17: the greatest, below", great.people(1), 1);
    }

    private static void tells() {
        due("18: one ask", new StageSieve().tells(), -4);
        // the second ask parts the sorts (0 and 100), the others do not (50 and 50)
        StageSieve x = Check.laid("s5,0,5,0;s5,10,5,0;a10,0,0,1;a5,5,10,1;a10,0,0,1;");
        due("18: that which parts them", x.tells(), 1);
        StageSieve alike = Check.laid("s5,0,5,0;s5,10,5,0;a5,0,5,1;a5,0,5,1;");
        due("18: the lowest", alike.tells(), 0);
        StageSieve zeros = Check.laid("s5,0,0,0;s5,10,0,0;a5,5,10,1;a0,0,10,1;");
        due("18: without either it is 1", zeros.tells(), 0);
        // without ask 1 nobody does anything: 0; without ask 0 people part at it
        StageSieve none = Check.laid("s5,0,0,0;s5,10,0,0;a10,0,10,1;a5,0,10,1;");
        due("18: 0, if both are 0", none.tells(), 1);
        StageSieve great = Check.laid("s60,0,0,0;s60,10,0,0;" + "a5,5,10,1;".repeat(5) + "a0,0,10,1;");
        due("18: the greatest", great.tells(), 0);
        due("18: people as before", great.people(1), 1);
    }

    private static void relief() {
        StageSieve x = Check.laid("s2,5,9,9;s3,9,0,0;a0,0,0,1;a3,1,0,1;p79,7;");
        due("19: felt 5", x.relief(0, 0, 0), 19);
        due("19: felt 9", x.relief(1, 0, 0), 35);
        due("19: felt 3, played does not count", x.relief(0, 1, 0), 11);
        due("19: sugar", x.relief(0, 0, 1), 55);
        due("19: sugar for another", x.relief(1, 1, 1), 55);
        due("19: sort", x.relief(2, 0, 0), -1);
        due("19: sort below", x.relief(-1, 0, 1), -1);
        due("19: ask", x.relief(0, 2, 1), -1);
        due("19: ask below", x.relief(0, -1, 0), -1);
        due("19: what", x.relief(0, 0, 2), -1);
        due("19: what below", x.relief(0, 0, -1), -1);
    }

    private static void worth() {
        // relief 40, 20, 4, 40; sugar 16
        StageSieve x = Check.laid("s1,10,0,0;s1,5,0,0;s1,1,0,0;s1,10,0,0;a0,0,0,1;a10,0,0,1;p80,2;");
        due("20: sugar", x.relief(0, 0, 1), 16);
        due("20: by 0", x.worth(0, 0), 1 + 2 + 8);
        due("20: by 4", x.worth(0, 4), 1 + 2 + 8);
        due("20: by 5", x.worth(0, 5), 1 + 8);
        due("20: by 24", x.worth(0, 24), 1 + 8);
        due("20: by 25", x.worth(0, 25), 0);
        due("20: nobody feels it", x.worth(1, 0), 0);
        StageSieve equal = Check.laid("s1,4,0,0;a0,0,0,1;p80,2;");
        due("20: as great is greater by 0", equal.worth(0, 0), 1);
        due("20: but not by 1", equal.worth(0, 1), 0);
        due("20: ask", x.worth(2, 0), -1);
        due("20: ask below", x.worth(-1, 0), -1);
        due("20: q below", x.worth(0, -1), -1);
        due("20: q above", x.worth(0, 100), -1);
        due("20: q at most", x.worth(0, 99), 0);
    }
}
