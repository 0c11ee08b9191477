/** Promises 9 to 13: who is left, odds, the best row. */
public final class LeftTest {
    private static final Check check = new Check();
    private static final int BELOW = Integer.MIN_VALUE;
    private static final int ABOVE = Integer.MAX_VALUE;

    private static void due(String call, long got, long want) {
        check.due(call, got, want);
    }

    public static void main(String[] args) {
        left();
        share();
        bent();
        odds();
        best();
        bestOfEquals();
        check.end();
    }

    private static void left() {
        // does: 30 and 50 at ask 0, 70 and 90 at ask 1, nothing played
        StageSieve x = Check.laid("s7,3,0,0;s3,5,0,0;a0,0,10,1;a0,4,10,1;");
        due("9: all", x.left(-1), 10000000);
        x.step(0, 0);
        due("9: of the first", x.left(0), 2100000);
        due("9: of the second", x.left(1), 1500000);
        due("9: together", x.left(-1), 3600000);
        x.step(1, 1);
        due("9: who does not stays", x.left(0), 630000);
        due("9: who does not stays, second", x.left(1), 150000);
        x.step(0, 0);
        x.step(0, 0);
        // 7 x 0.3 x 0.3 x 0.3 x 0.3 = 0.0567
        due("9: four steps", x.left(0), 56700);
        x.step(0, 0);
        x.step(0, 0);
        // 56700 by 0.3: 17010, 5103, then 1530.9
        due("9: six steps", x.left(0), 5103);
        x.step(0, 0);
        due("9: cut", x.left(0), 1530);
        x.step(0, 0);
        due("9: cut of what is cut", x.left(0), 459);
        due("9: sort", x.left(2), -1);
        due("9: sort below", x.left(-2), -1);
        due("9: sort far below", x.left(BELOW), -1);
        due("9: sort far above", x.left(ABOVE), -1);
        // who plays counts as one who does: FELT 2, PLAY 5: 60
        StageSieve players = Check.laid("s10,2,3,2;a0,0,0,1;t0,0;");
        due("9: players too", players.left(0), 6000000);
    }

    private static void share() {
        StageSieve x = Check.laid("s7,3,0,0;s3,5,0,0;a0,0,10,1;a0,4,10,1;");
        due("10: first", x.share(0), 70000);
        x.step(0, 0);
        // 2.1 and 1.5 of 3.6
        due("10: cut", x.share(0), 58333);
        due("10: the other", x.share(1), 41666);
        due("10: -1 is no sort", x.share(-1), -1);
        due("10: sort", x.share(2), -1);
        StageSieve none = Check.laid("s7,0,0,0;a10,0,10,1;t0,0;");
        due("10: none left", none.share(0), -4);
        due("10: bad ahead of none", none.share(1), -1);
        StageSieve few = Check.laid("s7,0,0,0;s1,10,0,0;a10,10,10,1;t0,0;");
        due("10: nothing of it", few.share(0), 0);
        due("10: all of it", few.share(1), 100000);
    }

    private static void bent() {
        StageSieve x = Check.laid("s7,3,0,0;s3,5,0,0;s1,10,0,0;a0,0,10,1;t0,0;");
        // 21 + 15 + 10 of 11; 2.1 x 3 + 1.5 x 5 + 1 x 10 of 4.6
        due("11: of all", x.bent(0), 4181);
        due("11: of those left", x.bent(1), 5173);
        due("11: what", x.bent(2), -1);
        due("11: what below", x.bent(-1), -1);
        StageSieve none = Check.laid("s7,4,0,0;a10,0,10,1;t0,0;");
        due("11: none left", none.bent(1), -4);
        due("11: of all still", none.bent(0), 4000);
        due("11: bad ahead of none", none.bent(3), -1);
    }

    private static void odds() {
        StageSieve x = Check.laid("s2,5,0,0;s1,2,0,0;a0,0,10,1;");
        due("12: all three", x.odds(3), 1000000);
        due("12: not two", x.odds(2), 0);
        x.step(0, 0);
        // two halves and a fifth: (1/4, 1/2, 1/4) by (4/5, 1/5)
        int[] due = {200000, 450000, 300000, 50000, 0, 0, 0, 0, 0, 0, 0, 0, 0};
        for (int c = 0; c < due.length; c++) {
            due("12: odds(" + c + ")", x.odds(c), due[c]);
        }
        due("12: c below", x.odds(-1), -1);
        due("12: c above", x.odds(13), -1);
        due("12: c far above", x.odds(ABOVE), -1);
        StageSieve many = Check.laid("s60,10,0,0;a0,0,10,1;");
        due("12: 13 and more count no more", many.odds(12), 0);
        StageSieve twelve = Check.laid("s12,10,0,0;a0,0,10,1;t0,0;");
        due("12: just twelve", twelve.odds(12), 1000000);
        StageSieve thirteen = Check.laid("s13,9,0,0;a0,0,10,1;t0,0;");
        due("12: some of thirteen, cut", thirteen.odds(12), 367157);
        oddsCut();
    }

    private static void oddsCut() {
        // left 7 x 0.3 to the 7-th is 1530 (cut), by 7: 218 (cut); of a million 218 at the first
        StageSieve x = Check.laid("s7,3,0,0;a0,0,10,1;t0,0;t0,0;t0,0;t0,0;t0,0;t0,0;t0,0;");
        due("12: left", x.left(0), 1530);
        long none = 1000000;
        for (int person = 0; person < 7; person++) {
            none -= none * 218 / 1000000;
        }
        due("12: cut person by person", x.odds(0), none);
        StageSieve one = Check.laid("s1,3,0,0;a0,0,10,1;t0,0;t0,0;t0,0;t0,0;t0,0;t0,0;t0,0;");
        due("12: one", one.odds(1), 218);
    }

    private static void best() {
        // does: 50 at ask 0 (3 minutes), 20 at ask 1 (10 minutes)
        StageSieve x = Check.laid("s1,5,0,0;a0,0,10,3;a3,0,10,10;");
        due("13: one of one left, by 9 minutes", x.best(1, 9, 1, -1), 500000);
        due("13: the first of two", x.best(1, 9, 1, 0), 0);
        due("13: by 10 minutes", x.best(1, 10, 1, -1), 800000);
        due("13: those who do not", x.best(1, 10, 1, 0), 3);
        due("13: nobody left", x.best(1, 10, 0, 0), 2);
        due("13: too few minutes", x.best(1, 2, 1, -1), -4);
        due("13: too few minutes, a step", x.best(1, 2, 1, 0), -4);
        due("13: no minutes", x.best(3, 0, 1, -1), -4);
        due("13: just the minutes", x.best(2, 6, 1, -1), 250000);
        due("13: a minute less", x.best(2, 5, 1, -1), -4);
        due("13: two steps", x.best(2, 13, 1, -1), 400000);
        due("13: two steps, first", x.best(2, 13, 1, 0), 0);
        due("13: two steps, second", x.best(2, 13, 1, 1), 3);
        due("13: three steps", x.best(3, 90, 1, -1), 512000);
        due("13: three steps, the last", x.best(3, 90, 1, 2), 3);
        due("13: n below", x.best(0, 9, 1, -1), -1);
        due("13: n above", x.best(4, 9, 1, -1), -1);
        due("13: minutes below", x.best(1, -1, 1, -1), -1);
        due("13: minutes above", x.best(1, 91, 1, -1), -1);
        due("13: c below", x.best(1, 9, -1, -1), -1);
        due("13: c above", x.best(1, 9, 13, -1), -1);
        due("13: i below", x.best(1, 9, 1, -2), -1);
        due("13: i above", x.best(1, 9, 1, 1), -1);
        due("13: i above three", x.best(3, 90, 1, 3), -1);
        due("13: bad ahead of none", x.best(2, 0, 1, 2), -1);
        x.step(1, 0);
        due("13: in place of the row", x.best(1, 10, 1, -1), 800000);
        due("13: the row stays", x.left(0), 200000);
        x.wipe();
        Check.write(x, "s1,9,0,0;a0,0,10,3;");
        x.lay();
        due("13: another house", x.best(1, 10, 1, -1), 900000);
    }

    private static void bestOfEquals() {
        // both asks are alike, so are their rows: the lowest numbers
        StageSieve x = Check.laid("s4,5,0,0;a0,0,10,5;a0,0,10,1;");
        due("13: the first of equals", x.best(2, 90, 1, 0), 0);
        due("13: the second of equals", x.best(2, 90, 1, 1), 0);
        due("13: of those short enough", x.best(2, 9, 1, 1), 2);
        due("13: of those shorter still", x.best(2, 5, 1, 0), 2);
        StageSieve asks = Check.laid("s1,9,0,0;a9,0,10,5;a8,0,10,5;a7,0,10,5;a6,0,10,5;a5,0,10,5;a0,0,10,1;");
        due("13: the last of six asks", asks.best(1, 4, 1, 0), 10);
        due("13: of six asks", asks.best(3, 90, 1, 0), 1);
        due("13: the last of three", asks.best(3, 3, 0, 2), 11);
        StageSieve none = Check.laid("s4,0,0,0;a10,0,10,5;");
        due("13: odds 0 are odds", none.best(1, 5, 3, -1), 0);
        due("13: the first of no odds", none.best(1, 5, 3, 0), 0);
        due("13: who does not stays", none.best(3, 15, 4, 2), 1);
        due("13: for sure", none.best(3, 15, 4, -1), 1000000);
    }
}
