/** Promises 24 to 29: nights by draws, what is kept, counts. */
public final class NightsTest {
    private static final Check check = new Check();

    private static void due(String call, long got, long want) {
        check.due(call, got, want);
    }

    public static void main(String[] args) {
        nightOfOneStep();
        nightOnStage();
        nightThatFollows();
        stepsToSix();
        one();
        nights();
        keepAndBack();
        count();
        check.end();
    }

    private static int draw(int z, int person, int step) {
        long x = 7919L * z + 6151L * person + 3571L * step + 1;
        return (int) (x * x % 65521 % 100);
    }

    /** Felt 2, play 3: below 20 felt, below 44 played. */
    private static void nightOfOneStep() {
        StageSieve doers = Check.laid("s40,2,3,0;a0,0,0,1;t0,0;");
        StageSieve others = Check.laid("s40,2,3,0;a0,0,0,1;t0,1;");
        int[] dates = {0, 1, 4711, 9999};
        for (int z : dates) {
            int felt = 0;
            int played = 0;
            for (int person = 0; person < 40; person++) {
                int draw = draw(z, person, 0);
                felt += draw < 20 ? 1 : 0;
                played += draw >= 20 && draw < 44 ? 1 : 0;
            }
            due("24: doers of " + z, doers.night(z, 0), felt + played);
            due("24: players of " + z, doers.night(z, 1), played);
            due("24: who does not, of " + z, others.night(z, 0), 40 - felt - played);
            due("24: none of these played, " + z, others.night(z, 1), 0);
        }
        due("24: z below", doers.night(-1, 0), -1);
        due("24: z above", doers.night(10000, 0), -1);
        due("24: what", doers.night(0, 3), -1);
        due("24: what below", doers.night(0, -1), -1);
        doers.noRow();
        due("24: no row, all are there", doers.night(5, 0), 40);
        due("24: no row, none played", doers.night(5, 1), 0);
    }

    /** The lowest there makes others play: felt 0, play 5 and 6 then. */
    private static void nightThatFollows() {
        StageSieve x = Check.laid("s60,0,5,0;a10,0,0,1;a10,0,10,1;t0,0;t0,0;");
        StageSieve most = Check.laid("s60,0,10,0;a10,0,0,1;t0,0;t0,0;t0,0;");
        boolean raised = false;
        for (int z = 0; z < 20; z++) {
            int there = 0;
            for (int person = 0; person < 60; person++) {
                there += draw(z, person, 0) < 50 && draw(z, person, 1) < 60 ? 1 : 0;
                raised |= draw(z, person, 0) < 50 && draw(z, person, 1) >= 50 && draw(z, person, 1) < 60;
            }
            due("24: follow, " + z, x.night(z, 0), there);
            due("24: all of them players, " + z, x.night(z, 1), there);
            due("24: 10 at most, " + z, most.night(z, 0), 60);
        }
        due("24: follow tells", raised ? 1 : 0, 1);
        // at once, not for ever: behind a step of those who do not nobody played
        x.noRow();
        x.step(0, 0);
        x.step(1, 1);
        x.step(0, 0);
        for (int z = 0; z < 20; z++) {
            int there = 0;
            for (int person = 0; person < 60; person++) {
                // ask 1: play 0, 1 by follow
                there += draw(z, person, 0) < 50 && draw(z, person, 1) >= 10 && draw(z, person, 2) < 50 ? 1 : 0;
            }
            due("24: follow ends, " + z, x.night(z, 0), there);
        }
        followOfTheLowest();
    }

    /** The lowest sort feels and does not play, so nobody follows; as long as one of it is there. */
    private static void followOfTheLowest() {
        StageSieve x = Check.laid("s1,5,0,0;s50,0,5,0;a0,0,0,1;t0,0;t0,0;");
        for (int z = 0; z < 40; z++) {
            boolean lowestFelt = draw(z, 0, 0) < 50;
            int play = lowestFelt ? 0 : 10;
            int there = lowestFelt && draw(z, 0, 1) < 50 ? 1 : 0;
            for (int person = 1; person <= 50; person++) {
                there += draw(z, person, 0) < 50 && draw(z, person, 1) < 50 + play ? 1 : 0;
            }
            due("24: follow the lowest, " + z, x.night(z, 0), there);
        }
    }

    private static void stepsToSix() {
        due("24: six at once", Check.laid("s6,0,0,0;a10,0,10,1;").night(0, 2), 0);
        due("24: six at once, then none", Check.laid("s6,0,0,0;a10,0,10,1;t0,0;").night(0, 2), 0);
        due("24: never", Check.laid("s7,0,0,0;a10,0,10,1;").night(0, 2), -4);
        due("24: never by a row", Check.laid("s7,0,0,0;a10,0,10,1;t0,1;t0,1;").night(0, 2), -4);
        due("24: behind two", Check.laid("s7,0,0,0;a10,0,10,1;t0,1;t0,0;t0,0;").night(0, 2), 2);
        due("24: six of seven", Check.laid("s6,10,0,0;s1,0,0,0;a0,0,10,1;t0,0;").night(0, 2), 1);
        due("24: seven of eight", Check.laid("s7,10,0,0;s1,0,0,0;a0,0,10,1;t0,0;").night(0, 2), -4);
    }

    /** Words and fear count: felt 3, play 4. */
    private static void nightOnStage() {
        StageSieve x = Check.laid("s60,4,2,4;a3,2,2,1;t0,0;");
        for (int z = 0; z < 10; z++) {
            int felt = 0;
            int played = 0;
            for (int person = 0; person < 60; person++) {
                int draw = draw(z, person, 0);
                felt += draw < 30 ? 1 : 0;
                played += draw >= 30 && draw < 58 ? 1 : 0;
            }
            due("24: on stage, " + z, x.night(z, 0), felt + played);
            due("24: players on stage, " + z, x.night(z, 1), played);
        }
    }

    private static void one() {
        StageSieve full = Check.laid("s60,0,0,0;s60,0,10,0;a10,0,0,1;");
        due("25: the last of 120", full.one(0, 119), 119);
        due("25: behind 120", full.one(0, 120), -4);
        full.step(0, 0);
        due("25: the last player of 120", full.one(0, 59), 119);
        due("24: sixty players", full.night(0, 1), 60);
        StageSieve x = Check.laid("s2,0,0,0;s3,10,0,0;s1,0,0,0;s60,10,0,0;a0,0,10,1;");
        due("25: no row", x.one(0, 2), 2);
        due("25: the last", x.one(9999, 65), 65);
        due("25: not so many", x.one(9999, 66), -4);
        x.step(0, 0);
        int[] due = {2, 3, 4, 6, 7};
        for (int i = 0; i < due.length; i++) {
            due("25: the " + i + "-th", x.one(7, i), due[i]);
        }
        due("25: the last there", x.one(7, 62), 65);
        due("25: none behind", x.one(7, 63), -4);
        due("25: none far behind", x.one(7, Integer.MAX_VALUE), -4);
        due("25: i below", x.one(7, -1), -1);
        due("25: i far below", x.one(7, Integer.MIN_VALUE), -1);
        due("25: z below", x.one(-1, 0), -1);
        due("25: z above", x.one(10000, 0), -1);
        due("25: bad ahead of none", x.one(10000, 63), -1);
    }

    private static void nights() {
        StageSieve x = Check.laid("s9,5,0,0;a0,0,10,1;t0,0;t0,0;");
        for (int z : new int[] {0, 500, 9989, 9990, 9991, 9999}) {
            int sum = 0;
            for (int c = 0; c <= 9; c++) {
                int such = 0;
                for (int later = 0; later < 10; later++) {
                    such += x.night((z + later) % 10000, 0) == c ? 1 : 0;
                }
                due("26: nights(" + z + ", " + c + ")", x.nights(z, c), such);
                sum += such;
            }
            due("26: ten in all", sum, 10);
        }
        due("26: more than there are", x.nights(0, 120), 0);
        due("26: c below", x.nights(0, -1), -1);
        due("26: c above", x.nights(0, 121), -1);
        due("26: z below", x.nights(-1, 0), -1);
        due("26: z above", x.nights(10000, 0), -1);
        StageSieve full = Check.laid("s60,0,0,0;s60,0,0,0;a0,0,0,1;");
        due("26: all of 120", full.nights(9995, 120), 10);
        due("26: not 119", full.nights(9995, 119), 0);
    }

    private static void keepAndBack() {
        StageSieve x = new StageSieve();
        due("28: nothing kept", x.back(), -2);
        x.step(0, 0);
        x.tell(0, 0, 1, 1);
        due("27: first", x.keep(), 1);
        x.step(0, 1);
        x.tell(0, 0, 2, 1);
        due("27: second", x.keep(), 2);
        due("27: full", x.keep(), -3);
        due("27: two", x.count(6), 2);
        x.noRow();
        x.forget();
        x.step(0, 1);
        due("28: one is left", x.back(), 1);
        due("28: steps of the last", x.count(3), 2);
        due("28: told of the last", x.count(5), 2);
        due("28: left of the last", x.left(0), 1600000);
        // p 2: without 2 x 2 x 2 x 8, with 10 x 8 x 10: 800 of 800 and 9 x 64
        due("28: man of the last", x.man(0), 25);
        due("28: man of the last, below", x.man(1), 43);
        due("28: bytes stay", x.count(4), 0);
        due("28: none is left", x.back(), 0);
        due("28: steps of the first", x.count(3), 1);
        due("28: told of the first", x.count(5), 1);
        due("28: left of the first", x.left(0), 2000000);
        due("28: no more", x.back(), -2);
        due("28: nothing changed", x.count(3), 1);
        x.keep();
        x.step(0, 0);
        x.keep();
        x.back();
        x.noRow();
        x.keep();
        due("27: in place of what was taken back", x.back(), 1);
        due("27: it has no step", x.count(3), 0);
        x.back();
        due("27: the first one stayed", x.count(3), 1);
        Check.write(x, "s1,1,1,1;a1,1,1,1;");
        x.keep();
        x.lay();
        due("28: nothing kept of a house before", x.back(), -2);
    }

    private static void count() {
        StageSieve x = Check.laid("s1,1,1,1;s2,1,1,1;s3,1,1,1;a1,1,1,1;a1,1,1,1;t0,0;t1,1;t0,1;t0,0;");
        x.tell(0, 0, 1, 1);
        x.tell(0, 0, 1, 1);
        x.keep();
        int[] counts = {3, 2, 6, 4, 65, 2, 1};
        for (int what = 0; what < counts.length; what++) {
            due("29: count(" + what + ")", x.count(what), counts[what]);
        }
        due("29: what", x.count(7), -1);
        due("29: what below", x.count(-1), -1);
        due("29: BAD", StageSieve.BAD, -1);
        due("29: NO", StageSieve.NO, -2);
        due("29: FULL", StageSieve.FULL, -3);
        due("29: NONE", StageSieve.NONE, -4);
    }
}
