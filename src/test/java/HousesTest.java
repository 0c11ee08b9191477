/** Promises 1 to 8: the text, its faults, a house laid, what a sort does, the row. */
public final class HousesTest {
    private static final Check check = new Check();

    private static void due(String call, long got, long want) {
        check.due(call, got, want);
    }

    public static void main(String[] args) {
        newObject();
        write();
        wipe();
        faults();
        fullHouses();
        lay();
        does();
        step();
        noRow();
        check.end();
    }

    private static void newObject() {
        StageSieve x = new StageSieve();
        int[] counts = {1, 1, 10, 0, 0, 0, 0};
        for (int what = 0; what < counts.length; what++) {
            due("1: count(" + what + ")", x.count(what), counts[what]);
        }
        // s10,5,5,0;a5,2,5,5; and c1, p50,2 without
        due("1: felt", x.does(0, 0, 0, 0), 2);
        due("1: felt, plain", x.does(0, 0, 1, 0), 0);
        due("1: play, as if", x.does(0, 0, 2, 1), 5);
        due("1: no step of 4 minutes", x.best(1, 4, 0, -1), -4);
        due("1: a step of 5 minutes", x.best(1, 5, 10, 0), 1);
        due("1: a man, above", x.man(0), 1);
        due("1: a man, below", x.man(1), 10);
        due("1: relief", x.relief(0, 0, 0), 5);
        due("1: sugar", x.relief(0, 0, 1), 10);
        due("1: bent", x.bent(0), 5000);
        StageSieve other = new StageSieve();
        other.step(0, 0);
        other.write(1, 's');
        due("1: objects are apart: steps", x.count(3), 0);
        due("1: objects are apart: bytes", x.count(4), 0);
    }

    private static void write() {
        StageSieve x = new StageSieve();
        due("2: n 0", x.write(0, 1), -1);
        due("2: n 9", x.write(9, 1), -1);
        due("2: n below", x.write(Integer.MIN_VALUE, 1), -1);
        due("2: nothing came", x.count(4), 0);
        // the lowest two bytes alone, the highest first: c0;
        due("2: two bytes", x.write(2, 0x7777_7777_0000_6330L), 2);
        due("2: not at its end", x.fault(), 0);
        due("2: one byte", x.write(1, 0x7777_7777_7777_003bL), 3);
        due("2: an item", x.fault(), -4);
        due("2: any byte", x.write(8, -1L), 11);
        due("2: which is a fault", x.fault(), 3);
        due("2: a zero", x.write(1, 0), 12);
        x.wipe();
        for (int i = 1; i <= 49; i++) {
            due("2: eight bytes", x.write(8, 0x7831_3b78_313b_7831L), 8 * i);
        }
        due("2: 399 of 400", x.write(7, 0), 399);
        due("2: full", x.write(2, 0), -3);
        due("2: bad ahead of full", x.write(9, 0), -1);
        due("2: nothing came of it", x.count(4), 399);
        due("2: 400", x.write(1, 0), 400);
        due("2: full at 400", x.write(1, 0), -3);
        due("2: fault in a full text", x.fault(), 0);
    }

    private static void wipe() {
        StageSieve x = new StageSieve();
        due("3: empty", x.wipe(), 0);
        Check.write(x, "c5;c6");
        due("3: five", x.wipe(), 5);
        due("3: none then", x.count(4), 0);
        due("3: none twice", x.wipe(), 0);
        due("3: no fault", x.fault(), -4);
        Check.write(x, "p1,1;");
        due("3: nothing of the old one", x.fault(), -4);
        StageSieve laid = Check.laid("s3,1,1,1;a1,1,1,1;");
        laid.wipe();
        due("3: the house stays", laid.count(2), 3);
    }

    private static int faultOf(String text) {
        StageSieve x = new StageSieve();
        Check.write(x, text);
        int fault = x.fault();
        due("4: the text stays: " + text, x.count(4), text.length());
        due("4: a faulty text is not laid: " + text, fault >= 0 ? x.lay() : -2, -2);
        due("4: the house stays: " + text, x.count(2), 10);
        return fault;
    }

    private static void faults() {
        String[] so = {"", "s1,0,0,0;", "s60,10,10,10;", "s001,000,010,0;", "a0,0,0,1;", "a10,10,10,30;", "c0;", "c10;",
            "p0,0;", "p99,10;", "c5;c6;c007;p1,2;p3,4;", "a1,1,1,1;t0,0;t0,1;", "a1,1,1,1;a1,1,1,1;t1,1;",
            "s60,1,1,1;s60,1,1,1;"};
        for (String text : so) {
            due("4: " + text, faultOf(text), -4);
        }
        String[] notSo = {"s0,1,1,1;", "s61,1,1,1;", "s1,11,1,1;", "s1,1,11,1;", "s1,1,1,11;", "s1,1,1;", "s1,1,1,1,1;",
            "a11,1,1,1;", "a1,11,1,1;", "a1,1,11,1;", "a1,1,1,0;", "a1,1,1,31;", "a1,1,1;", "a1,1,1,1,1;", "t0,0;", "c11;",
            "c1,1;", "c;", "c", "p100,1;", "p1,11;", "p1;", "p1,1,1;", "x1;", "S1,1,1,1;", "s0001,1,1,1;", "s1,1,1,1", "s1,,1,1;",
            "s,1,1,1;", "s1,1,1,;", "s1 ,1,1,1;", "s-1,1,1,1;", ";", "5;", ",", " c1;", "cc1;", "c1:", "c1,", "p1,2", "p1,2,", "\u00e3" + "1;", "c\u00b1;"};
        for (String text : notSo) {
            due("4: " + text, faultOf(text), 0);
            due("4: c1; and " + text, faultOf("c1;" + text), 3);
            due("4: the first of two: " + text, faultOf("c10;" + text + "c11;"), 4);
        }
        due("4: a space behind", faultOf("c1; "), 3);
        due("4: a step of an ask told behind", faultOf("t0,0;a1,1,1,1;"), 0);
        due("4: a step of an ask that is none yet", faultOf("a1,1,1,1;t1,0;a1,1,1,1;"), 9);
        due("4: a step kept by 2", faultOf("a1,1,1,1;t0,2;"), 9);
        due("4: a step of one number", faultOf("a1,1,1,1;t0;"), 9);
        due("4: a step of three numbers", faultOf("a1,1,1,1;t0,0,0;"), 9);
        due("4: asks of a text before do not count", laidThenFault("t0,0;"), 0);
    }

    private static int laidThenFault(String text) {
        StageSieve x = Check.laid("s1,1,1,1;a1,1,1,1;t0,0;");
        x.wipe();
        Check.write(x, text);
        return x.fault();
    }

    private static void fullHouses() {
        due("4: 121 people", faultOf("s60,1,1,1;s60,1,1,1;s1,1,1,1;"), 20);
        due("4: 120 people", faultOf("s60,1,1,1;s59,1,1,1;s1,1,1,1;"), -4);
        String sorts = "s1,1,1,1;".repeat(6);
        due("4: six sorts", faultOf(sorts), -4);
        due("4: seven sorts", faultOf(sorts + "s1,1,1,1;"), 54);
        String asks = "a1,1,1,1;".repeat(6);
        due("4: six asks", faultOf(asks), -4);
        due("4: seven asks", faultOf(asks + "a1,1,1,1;"), 54);
        String steps = "a1,1,1,1;" + "t0,1;".repeat(8);
        due("4: eight steps", faultOf(steps), -4);
        due("4: nine steps", faultOf(steps + "t0,1;"), 49);
    }

    private static void lay() {
        StageSieve x = new StageSieve();
        due("5: empty", x.lay(), -2);
        Check.write(x, "s7,1,2,3;");
        due("5: no ask", x.lay(), -2);
        x.wipe();
        Check.write(x, "a1,2,3,4;");
        due("5: no sort", x.lay(), -2);
        due("5: people as before", x.count(2), 10);
        x.step(0, 0);
        x.tell(0, 0, 1, 0);
        x.keep();
        due("5: still no", x.lay(), -2);
        due("5: steps as before", x.count(3), 1);
        due("5: told as before", x.count(5), 1);
        due("5: kept as before", x.count(6), 1);
        Check.write(x, "s7,1,2,3;s8,4,5,6;t0,1;t0,0;c3;c4;p7,7;p60,3;");
        due("5: people", x.lay(), 15);
        int[] counts = {2, 1, 15, 2, 54, 0, 0};
        for (int what = 0; what < counts.length; what++) {
            due("5: count(" + what + ")", x.count(what), counts[what]);
        }
        due("5: the last c counts", x.man(0), 2);
        due("5: the last c counts, below", x.man(1), 5);
        due("5: the last p counts", x.relief(1, 0, 0), 15);
        due("5: the last p counts, sugar", x.relief(0, 0, 1), 18);
        due("5: nothing kept", x.back(), -2);
        x.wipe();
        Check.write(x, "s1,1,1,1;a1,1,1,1;");
        due("5: again", x.lay(), 1);
        due("5: no step told", x.count(3), 0);
        due("5: c without", x.man(1), 10);
        due("5: p without", x.relief(0, 0, 1), 10);
        due("5: no second sort", x.does(1, 0, 0, 0), -1);
    }

    private static void does() {
        StageSieve x = Check.laid("s5,8,3,4;s5,2,9,9;s5,10,1,0;a3,2,4,5;a9,0,0,1;a0,10,10,1;");
        int[][] felt = {{7, 5, 0, 7}, {1, 0, 0, 1}, {9, 7, 0, 9}};
        int[][] played = {{3, 0, 6, 0}, {10, 5, 6, 0}, {0, 0, 6, 0}};
        int[][] does = {{79, 50, 60, 70}, {100, 50, 60, 10}, {90, 70, 60, 90}};
        for (int sort = 0; sort < 3; sort++) {
            for (int mode = 0; mode < 4; mode++) {
                due("6: felt of " + sort + " in " + mode, x.does(sort, 0, mode, 0), felt[sort][mode]);
                due("6: played of " + sort + " in " + mode, x.does(sort, 0, mode, 1), played[sort][mode]);
                due("6: done of " + sort + " in " + mode, x.does(sort, 0, mode, 2), does[sort][mode]);
            }
        }
        due("6: felt, 0 at least", x.does(0, 1, 0, 0), 0);
        due("6: played, 10 at most", x.does(1, 1, 0, 1), 10);
        due("6: felt, 10 at most", x.does(2, 2, 0, 0), 10);
        due("6: as if, 0 at least", x.does(2, 2, 2, 1), 0);
        due("6: sort", x.does(3, 0, 0, 0), -1);
        due("6: sort below", x.does(-1, 0, 0, 0), -1);
        due("6: ask", x.does(0, 3, 0, 0), -1);
        due("6: ask below", x.does(0, -1, 0, 0), -1);
        due("6: mode", x.does(0, 0, 4, 0), -1);
        due("6: mode below", x.does(0, 0, -1, 0), -1);
        due("6: what", x.does(0, 0, 0, 3), -1);
        due("6: what below", x.does(0, 0, 0, -1), -1);
    }

    private static void step() {
        StageSieve x = new StageSieve();
        due("7: ask", x.step(1, 0), -1);
        due("7: ask below", x.step(-1, 0), -1);
        due("7: keep", x.step(0, 2), -1);
        due("7: keep below", x.step(0, -1), -1);
        due("7: no step", x.count(3), 0);
        for (int i = 1; i <= 8; i++) {
            due("7: a step more", x.step(0, i % 2), i);
        }
        due("7: full", x.step(0, 0), -3);
        due("7: bad ahead of full", x.step(1, 0), -1);
        due("7: eight", x.count(3), 8);
        StageSieve told = Check.laid("s10,5,5,0;a5,2,5,5;t0,0;");
        due("7: behind the told row", told.step(0, 1), 2);
        due("7: both steps keep", told.left(0), 1600000);
    }

    private static void noRow() {
        StageSieve x = Check.laid("s10,5,5,0;a5,2,5,5;t0,0;t0,0;t0,0;");
        due("8: three", x.noRow(), 3);
        due("8: none", x.noRow(), 0);
        due("8: all are left", x.left(-1), 10000000);
        due("8: from the first on", x.step(0, 1), 1);
        due("8: by that step", x.left(-1), 8000000);
    }
}
