/** Promises 21 to 23: told nights, and whether a man of his sits in the house. */
public final class ManTest {
    private static final Check check = new Check();

    private static void due(String call, long got, long want) {
        check.due(call, got, want);
    }

    public static void main(String[] args) {
        tell();
        forget();
        man();
        manCut();
        check.end();
    }

    private static void tell() {
        StageSieve x = new StageSieve();
        due("21: sort", x.tell(1, 0, 1, 0), -1);
        due("21: sort below", x.tell(-1, 0, 1, 0), -1);
        due("21: ask", x.tell(0, 1, 1, 0), -1);
        due("21: ask below", x.tell(0, -1, 1, 0), -1);
        due("21: n 0", x.tell(0, 0, 0, 0), -1);
        due("21: n 5", x.tell(0, 0, 5, 0), -1);
        due("21: d below", x.tell(0, 0, 1, -1), -1);
        due("21: d above n", x.tell(0, 0, 2, 3), -1);
        due("21: none told", x.count(5), 0);
        due("21: first", x.tell(0, 0, 4, 4), 1);
        due("21: second", x.tell(0, 0, 1, 0), 2);
        due("21: third", x.tell(0, 0, 4, 0), 3);
        due("21: full", x.tell(0, 0, 1, 1), -3);
        due("21: bad ahead of full", x.tell(0, 0, 1, 2), -1);
        due("21: three", x.count(5), 3);
    }

    private static void forget() {
        StageSieve x = new StageSieve();
        due("22: none", x.forget(), 0);
        x.tell(0, 0, 2, 1);
        x.tell(0, 0, 2, 2);
        due("22: two", x.forget(), 2);
        due("22: none then", x.count(5), 0);
        due("22: as without", x.man(1), 10);
        due("22: the first again", x.tell(0, 0, 2, 1), 1);
    }

    private static void man() {
        // does 30 at ask 0
        StageSieve x = Check.laid("s5,3,0,0;a0,0,10,1;c2;");
        due("23: without nights, above", x.man(0), 1);
        due("23: without nights, below", x.man(1), 5);
        x.tell(0, 0, 3, 2);
        // without: 3 x 3 x 3 x 7 = 189; with: 2 x 3 x 7 x 10 = 420: 840 of 840 and 1512
        due("23: a night, above", x.man(0), 5);
        due("23: a night, below", x.man(1), 14);
        x.tell(0, 0, 1, 1);
        // without: 3; with: 10: 8400 of 8400 and 4536
        due("23: two nights, above", x.man(0), 50);
        due("23: two nights, below", x.man(1), 77);
        due("23: part", x.man(2), -1);
        due("23: part below", x.man(-1), -1);
        x.tell(0, 0, 4, 0);
        due("23: with him one did, above", x.man(0), 0);
        due("23: with him one did, below", x.man(1), 1);
        StageSieve never = Check.laid("s5,3,0,0;a0,0,10,1;c0;");
        due("23: no man, above", never.man(0), 0);
        due("23: no man, below", never.man(1), 1);
        StageSieve ever = Check.laid("s5,3,0,0;a0,0,10,1;c10;");
        due("23: a man, above", ever.man(0), 1);
        due("23: a man, below", ever.man(1), 1);
        ever.tell(0, 0, 1, 0);
        due("23: neither can be", ever.man(0), -4);
        due("23: neither can be, below", ever.man(1), -4);
        due("23: bad ahead of none", ever.man(2), -1);
    }

    private static void manCut() {
        // felt 5, play 3: done 65, p 6
        StageSieve x = Check.laid("s5,5,3,0;s5,10,0,0;a0,0,0,1;a10,0,10,1;c5;");
        due("23: done", x.does(0, 0, 0, 2), 65);
        x.tell(0, 0, 4, 4);
        // without 6 x 6 x 6 x 6, with 6 x 6 x 6 x 10
        due("23: cut, above", x.man(0), 5);
        due("23: cut, below", x.man(1), 8);
        x.forget();
        x.tell(0, 1, 2, 1);
        // nobody does it: without 0, with 10 x 10
        due("23: it must be he", x.man(0), 1);
        due("23: it must be he, below", x.man(1), 1);
        x.tell(0, 1, 2, 2);
        due("23: not even he", x.man(0), -4);
        x.forget();
        x.tell(1, 0, 2, 1);
        due("23: all do it, one did not", x.man(0), -4);
        x.forget();
        x.tell(0, 0, 4, 2);
        x.tell(0, 0, 4, 2);
        x.tell(0, 0, 4, 2);
        // a night without 6 x 36 x 16, with 3 x 6 x 16 x 10: 5 to 6 each
        due("23: three nights, above", x.man(0), 125);
        due("23: three nights, below", x.man(1), 341);
    }
}
