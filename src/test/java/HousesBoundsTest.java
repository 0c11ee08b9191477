import java.util.Arrays;

/** The bounds that the document names, of promises 1 to 8: the text, its items, a house laid, what is done, the row. */
public final class HousesBoundsTest {
    private static final int BAD = -1;
    private static final int NO = -2;
    private static final int FULL = -3;
    private static final int NONE = -4;
    private static final String LEAST = "s1,1,1,1;a1,1,1,1;";
    private static final Bounds bounds = new Bounds();

    private static void due(String call, long got, long want) {
        bounds.due(call, got, want);
    }

    public static void main(String[] args) {
        emptyAtFirst();
        houseAtFirst();
        withoutManAndPain();
        courseAtFirst();
        numbersOfRefusals();
        usedFor512Calls();

        bytesOfANumber();
        highestFirst();
        lengthOfText();
        fourHundredBytes();
        notMoreThan400();
        badAheadOfFull();

        wiped();

        noFault();
        placeOfFault();
        oneBehindTheOther();
        letters();
        figures();
        partings();
        endOfTheLast();
        sorts();
        people();
        asks();
        steps();
        stepsOfAsksToldAhead();
        man();
        pain();
        faultChangesNothing();

        aSortAndAnAskAtLeast();
        notLaidChangesNothing();
        laid();
        laidAnew();
        ofSeveralTheLast();
        fullTextLaid();

        modesAndNumbers();
        felt();
        feltPlain();
        notFeltAsIf();
        played();
        playedPlain();
        playedAsIfAndAlone();
        done();

        stepNumbers();
        eightSteps();
        badStepAheadOfFull();
        stepsBehindToldOnes();

        noRow();
        bounds.end();
    }

    // ---- promise 1: a new object

    private static void emptyAtFirst() {
        bounds.sentence(1, "THE TEXT is empty");
        StageSieve x = new StageSieve();
        due("count(4)", x.count(4), 0);
        due("fault()", x.fault(), NONE);
        due("lay()", x.lay(), NO);
        due("wipe()", x.wipe(), 0);
    }

    private static void houseAtFirst() {
        bounds.sentence(1, "at first s10,5,5,0;a5,2,5,5;");
        StageSieve x = new StageSieve();
        due("SORTS", x.count(0), 1);
        due("ASKS", x.count(1), 1);
        due("PEOPLE", x.count(2), 10);
        due("does(0, 0, 0, 2)", x.does(0, 0, 0, 2), 20);
        due("does of a second SORT", x.does(1, 0, 0, 2), BAD);
        due("does at a second ASK", x.does(0, 1, 0, 2), BAD);
        due("a STEP of 5 minutes in 5", x.best(1, 5, 10, 0), 1);
        due("a STEP of 5 minutes in 4", x.best(1, 4, 10, 0), NONE);
        due("the 10th of ten", x.one(0, 9), 9);
        due("the 11th of ten", x.one(0, 10), NONE);
        Check.write(x, "s10,5,5,0;a5,2,5,5;");
        x.lay();
        x.wipe();
        due("answers as the text of it laid", State.of(x).equals(State.of(new StageSieve())) ? 1 : 0, 1);
    }

    private static void withoutManAndPain() {
        bounds.sentence(1, "1 without", "50, 2 without");
        StageSieve x = new StageSieve();
        due("man(0)", x.man(0), 1);
        due("man(1)", x.man(1), 10);
        due("50 times 2 by 20", x.relief(0, 0, 0), 5);
        due("50 times 2 by 10", x.relief(0, 0, 1), 10);
    }

    private static void courseAtFirst() {
        bounds.sentence(1, "As told");
        due("noRow()", new StageSieve().noRow(), 0);
        due("forget()", new StageSieve().forget(), 0);
        due("back()", new StageSieve().back(), NO);
        due("step(0, 0)", new StageSieve().step(0, 0), 1);
        due("tell(0, 0, 1, 0)", new StageSieve().tell(0, 0, 1, 0), 1);
        due("keep()", new StageSieve().keep(), 1);
        StageSieve other = new StageSieve();
        Bounds.HOUSE.on(other);
        due("an object beside one with a house", State.of(new StageSieve()).equals(State.of(other)) ? 1 : 0, 0);
        due("an object made behind it", new StageSieve().count(2), 10);
    }

    private static void numbersOfRefusals() {
        bounds.sentence(1, "BAD = -1, NO = -2, FULL = -3, NONE = -4");
        due("BAD", StageSieve.BAD, -1);
        due("NO", StageSieve.NO, -2);
        due("FULL", StageSieve.FULL, -3);
        due("NONE", StageSieve.NONE, -4);
    }

    private static void usedFor512Calls() {
        bounds.sentence(1, "An object is used for at most 512 calls after it has been made");
        StageSieve x = Bounds.made(Bounds.HOUSE);
        // HOUSE are 7 writes and 5 calls more
        for (int calls = 12; calls < 508; calls += 4) {
            due("keep()", x.keep(), 2);
            due("back()", x.back(), 1);
            due("noRow()", x.noRow(), calls == 12 ? 2 : 1);
            due("step(0, 0)", x.step(0, 0), 1);
        }
        due("call 509", x.best(3, 90, 3, -1) >= 0 ? 1 : 0, 1);
        due("call 510", x.nights(9999, 0) >= 0 ? 1 : 0, 1);
        due("call 511", x.lay(), 10);
        due("call 512", x.count(3), 1);
    }

    // ---- promise 2: write

    private static void bytesOfANumber() {
        bounds.sentence(2, "The lowest n bytes (1 to 8) of v", "BAD");
        bounds.numbers("write(#, \"c\")", Bounds.HOUSE, 1, 8, (x, n) -> x.write(n, 'c'));
        // the last n bytes of the text, above them bytes that are none of it
        String[] ends = {"c7;", "c7;", "c7;", "c07;", "c007;", "c8;c7;", "c8;c07;", "c8;c007;"};
        for (int n = 1; n <= 8; n++) {
            String text = LEAST + ends[n - 1];
            int ahead = text.length() - n;
            StageSieve x = new StageSieve();
            Check.write(x, text.substring(0, ahead));
            long v = -1;
            for (int place = ahead; place < text.length(); place++) {
                v = v << 8 | text.charAt(place);
            }
            due("write(" + n + ", v)", x.write(n, v), text.length());
            due("lay behind " + n + " bytes", x.lay(), 1);
            due("man(0) behind " + n + " bytes", x.man(0), 7);
        }
    }

    private static void highestFirst() {
        bounds.sentence(2, "the highest of these first");
        StageSieve x = new StageSieve();
        x.write(3, 0x63373bL);
        due("fault behind c7;", x.fault(), NONE);
        x.wipe();
        x.write(3, 0x3b3763L);
        due("fault behind ;7c", x.fault(), 0);
        x.wipe();
        x.write(8, 0x70392c313b63373bL);
        due("fault behind p9,1;c7;", x.fault(), NONE);
    }

    private static void lengthOfText() {
        bounds.sentence(2, "come behind THE TEXT: how long it is");
        StageSieve x = new StageSieve();
        due("write(1, v)", x.write(1, 'c'), 1);
        due("write(8, v)", x.write(8, 0), 9);
        due("write(1, v) once more", x.write(1, 0), 10);
        due("count(4)", x.count(4), 10);
    }

    /** A text of so many bytes that is LAID, its last items c1;. */
    private static String laidOf(int bytes) {
        StringBuilder text = new StringBuilder(LEAST);
        while ((bytes - text.length()) % 3 != 0) {
            text.append("p9,1;");
        }
        return text.append("c1;".repeat((bytes - text.length()) / 3)).toString();
    }

    private static void fourHundredBytes() {
        bounds.sentence(2, "A TEXT is bytes (400 at most)");
        for (int n = 1; n <= 8; n++) {
            StageSieve x = new StageSieve();
            Check.write(x, laidOf(400 - n));
            due("write(" + n + ", v) behind " + (400 - n), x.write(n, 0), 400);
            due("write(1, v) behind 400", x.write(1, 0), FULL);
        }
    }

    private static void notMoreThan400() {
        bounds.sentence(2, "A TEXT is bytes (400 at most)", "FULL", "nothing changes then");
        for (int n = 1; n <= 8; n++) {
            int size = n;
            int bytes = 401 - n;
            bounds.refused("write(" + n + ", v) behind " + bytes, x -> Check.write(x, laidOf(bytes)),
                x -> due("write(" + size + ", v) behind " + bytes, x.write(size, 0x63333b63333b63L), FULL));
        }
        StageSieve x = new StageSieve();
        Check.write(x, laidOf(397));
        due("write(4, v) behind 397", x.write(4, 0x6330393bL), FULL);
        due("count(4) then", x.count(4), 397);
        due("fault() then", x.fault(), NONE);
        due("write(3, v) then", x.write(3, 0x63373bL), 400);
        due("write(8, v) then", x.write(8, 0), FULL);
        due("lay() then", x.lay(), 1);
        due("man(0) then", x.man(0), 7);
    }

    private static void badAheadOfFull() {
        bounds.sentence(2, "Of several the first in this order", "BAD; FULL");
        for (int n : new int[] {0, 9, Integer.MIN_VALUE, Integer.MAX_VALUE}) {
            bounds.bad("write(#, v) behind 400", x -> Check.write(x, laidOf(400)), n, (x, number) -> x.write(number, 0));
        }
    }

    // ---- promise 3: wipe

    private static void wiped() {
        bounds.sentence(3, "THE TEXT is empty: how long it was");
        StageSieve x = new StageSieve();
        due("an empty one", x.wipe(), 0);
        x.write(1, 'c');
        due("of one byte", x.wipe(), 1);
        due("wiped before", x.wipe(), 0);
        Check.write(x, laidOf(400));
        due("of 400 bytes", x.wipe(), 400);
        due("count(4) then", x.count(4), 0);
        due("fault() then", x.fault(), NONE);
        due("lay() then", x.lay(), NO);
        due("write(8, v) then", x.write(8, 0), 8);
        bounds.refused("wipe() of an empty text", y -> {
            Bounds.HOUSE.on(y);
            y.wipe();
        }, y -> due("wipe() twice", y.wipe(), 0));
    }

    // ---- promise 4: fault

    private static int faultOf(String text) {
        StageSieve x = new StageSieve();
        Check.write(x, text);
        return x.fault();
    }

    private static void so(String text) {
        due("fault of " + text, faultOf(text), NONE);
    }

    /** The last item of a text is not so, and is told at its first byte. */
    private static void notSo(String ahead, String item) {
        due("fault of " + ahead + item, faultOf(ahead + item), ahead.length());
    }

    private static void noFault() {
        bounds.sentence(4, "FAULT. NONE");
        so("");
        so("c1;");
        so(LEAST);
        so(laidOf(400));
    }

    private static void placeOfFault() {
        bounds.sentence(4, "the place (from 0 on) of the first byte of the first ITEM that is not so");
        notSo("", "c11;");
        notSo("", "s10,5,5,11;");
        notSo("c1;", "s10,5,5,11;");
        due("of two the first", faultOf("c1;c11;c1;x"), 3);
        due("of two the first, not the worst", faultOf("c1;c11;x1;"), 3);
        notSo("c1;".repeat(133), "x");
        notSo("c1;".repeat(132), "c001");
        due("of an item behind it that is so", faultOf("x;" + LEAST), 0);
    }

    private static void oneBehindTheOther() {
        bounds.sentence(4, "ITEMS one behind the other");
        for (char between : new char[] {' ', '\n', ';', ',', 0, 255}) {
            notSo("c1;", between + "c2;");
            notSo("", between + "c2;");
            notSo("c1;", String.valueOf(between));
        }
    }

    /** Of all bytes just these letters are items with so many numbers. */
    private static void letters() {
        bounds.sentence(4, "each a letter, numbers");
        String ahead = LEAST + "a1,1,1,1;";
        String[] lettersOf = {"", "c", "tp", "", "sa", "", ""};
        for (int numbers = 0; numbers < lettersOf.length; numbers++) {
            String all = ",1".repeat(numbers).replaceFirst(",", "") + ";";
            for (char letter = 0; letter < 256; letter++) {
                int fault = lettersOf[numbers].indexOf(letter) >= 0 ? NONE : ahead.length();
                due("fault of byte " + (int) letter + " with " + numbers + " numbers", faultOf(ahead + letter + all), fault);
            }
        }
        notSo("", "cc1;");
        notSo("", "1;");
        notSo("", "1c;");
    }

    private static void figures() {
        bounds.sentence(4, "numbers (one to three figures)");
        so("c1;");
        so("c01;");
        so("c001;");
        notSo("", "c;");
        notSo("", "c0001;");
        notSo("", "c0000;");
        so("p099,010;");
        notSo("", "p0099,10;");
        notSo("", "p99,0010;");
        notSo("", "p,10;");
        notSo("", "p99,;");
        notSo("", "s,1,1,1;");
        notSo("", "s1,1,1,;");
        notSo("", "s1,,1,1;");
        for (char figure = 0; figure < 256; figure++) {
            due("fault of c, byte " + (int) figure + " and ;", faultOf("c" + figure + ";"), figure >= '0' && figure <= '9' ? NONE : 0);
            // c0;; is c0; and an item that is not so
            int fault = figure >= '0' && figure <= '9' ? NONE : figure == ';' ? 3 : 0;
            due("fault of c0, byte " + (int) figure + " and ;", faultOf("c0" + figure + ";"), fault);
        }
    }

    private static void partings() {
        bounds.sentence(4, "parted by ,");
        for (char parting = 0; parting < 256; parting++) {
            due("fault of p1, byte " + (int) parting + " and 1;", faultOf("p1" + parting + "1;"), parting == ',' ? NONE : 0);
        }
        notSo("", "p,1,1;");
        notSo("", "p1,1,;");
        notSo("", "p1,,1;");
    }

    private static void endOfTheLast() {
        bounds.sentence(4, "and ; (behind the last one, too)");
        for (char end = 0; end < 256; end++) {
            due("fault of c1 and byte " + (int) end, faultOf("c1" + end), end == ';' ? NONE : 0);
        }
        notSo("", "c");
        notSo("", "c1");
        notSo("", "c1,");
        notSo(LEAST, "c1");
        notSo("s1,1,1,1;", "a1,1,1,1");
    }

    private static String item(char letter, int[] numbers) {
        StringBuilder item = new StringBuilder().append(letter);
        for (int i = 0; i < numbers.length; i++) {
            item.append(i == 0 ? "" : ",").append(numbers[i]);
        }
        return item.append(';').toString();
    }

    /** Each number of an item at its bounds and beside them, and one number fewer and more. */
    private static void itemAtBounds(String ahead, char letter, int[] least, int[] most) {
        so(ahead + item(letter, least));
        so(ahead + item(letter, most));
        for (int i = 0; i < least.length; i++) {
            int[] numbers = most.clone();
            numbers[i] = least[i];
            so(ahead + item(letter, numbers));
            for (int beside : new int[] {least[i] - 1, most[i] + 1, 999}) {
                numbers[i] = beside;
                notSo(ahead, item(letter, numbers));
            }
        }
        notSo(ahead, item(letter, Arrays.copyOf(least, least.length - 1)));
        notSo(ahead, item(letter, Arrays.copyOf(least, least.length + 1)));
    }

    private static void sorts() {
        bounds.sentence(4, "a SORT of N PEOPLE (1 to 60; 120 in all at most), BENT B, WISH W, FEAR F (0 to 10 each); 6 at most");
        itemAtBounds("", 's', new int[] {1, 0, 0, 0}, new int[] {60, 10, 10, 10});
        so("s1,1,1,1;".repeat(5));
        so("s1,1,1,1;".repeat(6));
        notSo("s1,1,1,1;".repeat(6), "s1,1,1,1;");
    }

    private static void people() {
        bounds.sentence(4, "120 in all at most");
        so("s60,1,1,1;s60,1,1,1;");
        so("s60,1,1,1;s59,1,1,1;");
        so("s60,1,1,1;s59,1,1,1;s1,1,1,1;");
        notSo("s60,1,1,1;s60,1,1,1;", "s1,1,1,1;");
        notSo("s60,1,1,1;s59,1,1,1;", "s2,1,1,1;");
        notSo("s60,1,1,1;s1,1,1,1;", "s60,1,1,1;");
        so("s20,1,1,1;".repeat(6));
        notSo("s20,1,1,1;".repeat(5), "s21,1,1,1;");
        // items of asks and men between them are no people
        so("s60,1,1,1;" + LEAST + "c10;p99,10;s59,1,1,1;");
    }

    private static void asks() {
        bounds.sentence(4, "an ASK, H hard, to which WORDS add V, E hard to play (0 to 10 each), of M minutes (1 to 30); 6 at most");
        itemAtBounds("", 'a', new int[] {0, 0, 0, 1}, new int[] {10, 10, 10, 30});
        so("a1,1,1,1;".repeat(5));
        so("a1,1,1,1;".repeat(6));
        notSo("a1,1,1,1;".repeat(6), "a1,1,1,1;");
    }

    private static void steps() {
        bounds.sentence(4, "a STEP more of THE ROW: ASK A (told ahead), K 0: who does stays, 1: who does not stays; 8 at most");
        itemAtBounds("a1,1,1,1;", 't', new int[] {0, 0}, new int[] {0, 1});
        so("a1,1,1,1;" + "t0,1;".repeat(7));
        so("a1,1,1,1;" + "t0,1;".repeat(8));
        notSo("a1,1,1,1;" + "t0,1;".repeat(8), "t0,1;");
    }

    private static void stepsOfAsksToldAhead() {
        bounds.sentence(4, "ASK A (told ahead)");
        notSo("", "t0,0;");
        notSo("s1,1,1,1;", "t0,0;");
        due("told behind", faultOf("t0,0;a1,1,1,1;"), 0);
        String asks = "";
        for (int ask = 0; ask < 6; ask++) {
            notSo(asks, "t" + ask + ",0;");
            asks += "a1,1,1,1;";
            so(asks + "t" + ask + ",0;");
        }
        notSo(asks, "t6,0;");
        so("a1,1,1,1;t0,0;a1,1,1,1;t1,0;");
        notSo("a1,1,1,1;t0,0;", "t1,0;");
        StageSieve x = Bounds.made(Bounds.HOUSE);
        x.wipe();
        Check.write(x, "t0,0;");
        due("fault of t0,0; in a house with asks", x.fault(), 0);
    }

    private static void man() {
        bounds.sentence(4, "C tenths ahead that a MAN of his is in the house (0 to 10; 1 without");
        itemAtBounds("", 'c', new int[] {0}, new int[] {10});
        due("man(0) with c0;", Check.laid(LEAST + "c0;").man(0), 0);
        due("man(1) with c10;", Check.laid(LEAST + "c10;").man(1), 1);
    }

    private static void pain() {
        bounds.sentence(4, "PAIN is P (0 to 99), sugar takes S tenths of it (0 to 10)");
        itemAtBounds("", 'p', new int[] {0, 0}, new int[] {99, 10});
        due("sugar with p99,10;", Check.laid(LEAST + "p99,10;").relief(0, 0, 1), 99);
        due("sugar with p99,0;", Check.laid(LEAST + "p99,0;").relief(0, 0, 1), 0);
        due("sugar with p0,10;", Check.laid(LEAST + "p0,10;").relief(0, 0, 1), 0);
    }

    private static void faultChangesNothing() {
        bounds.sentence(4, "FAULT");
        bounds.refused("fault() without one", Bounds.HOUSE, x -> due("fault()", x.fault(), NONE));
        Bounds.Calls faulty = x -> {
            Bounds.HOUSE.on(x);
            Check.write(x, "c9;s1,1,1,1;x");
        };
        bounds.refused("fault() with one", faulty, x -> due("fault()", x.fault() > 0 ? 1 : 0, 1));
    }

    // ---- promise 5: lay

    private static int laidPeople(String text) {
        StageSieve x = new StageSieve();
        Check.write(x, text);
        return x.lay();
    }

    private static void aSortAndAnAskAtLeast() {
        bounds.sentence(5, "LAID is a TEXT without FAULT, of a SORT and an ASK at least (NO else");
        due("lay of nothing", laidPeople(""), NO);
        due("lay of a SORT", laidPeople("s1,1,1,1;"), NO);
        due("lay of six SORTS", laidPeople("s1,1,1,1;".repeat(6)), NO);
        due("lay of an ASK", laidPeople("a1,1,1,1;"), NO);
        due("lay of six ASKS and a STEP", laidPeople("a1,1,1,1;".repeat(6) + "t5,1;"), NO);
        due("lay of neither", laidPeople("c1;p1,1;"), NO);
        due("lay of both", laidPeople(LEAST), 1);
        due("lay of both, the ASK first", laidPeople("a1,1,1,1;s1,1,1,1;"), 1);
        due("lay with a FAULT behind", laidPeople(LEAST + "c11;"), NO);
        due("lay with a FAULT ahead", laidPeople("c11;" + LEAST), NO);
        due("lay without the last ;", laidPeople("s1,1,1,1;a1,1,1,1"), NO);
    }

    private static void notLaidChangesNothing() {
        bounds.sentence(5, "NO", "nothing changes then");
        String[] texts = {"", "s9,9,9,9;", "a9,9,9,1;t0,1;", "c9;p9,9;", "s9,9,9,9;a9,9,9,1;t0,1;c9;p9,9;x", "s9,9,9,9;a9,9,9,1;t1,1;"};
        for (String text : texts) {
            bounds.refused("lay of " + text, x -> {
                Bounds.HOUSE.on(x);
                x.best(1, 5, 1, 0);
                x.wipe();
                Check.write(x, text);
            }, x -> due("lay of " + text, x.lay(), NO));
        }
        StageSieve x = Bounds.made(Bounds.HOUSE);
        x.wipe();
        Check.write(x, "s9,9,9,9;a9,9,9,1;t0,1;c9;p9,9;x");
        int[] counts = {2, 2, 10, 2, 32, 2, 1};
        due("lay()", x.lay(), NO);
        for (int what = 0; what < counts.length; what++) {
            due("count(" + what + ") then", x.count(what), counts[what]);
        }
    }

    private static void laid() {
        bounds.sentence(5, "LAID: how many PEOPLE; THE ROW as told, no told nights, nothing KEPT; THE TEXT stays");
        due("lay of one", laidPeople(LEAST), 1);
        due("lay of 120", laidPeople("s60,1,1,1;s60,1,1,1;a1,1,1,1;"), 120);
        String[] rows = {"", "t0,0;", "t0,0;".repeat(8)};
        for (String row : rows) {
            StageSieve x = Bounds.made(Bounds.HOUSE);
            x.keep();
            x.tell(0, 0, 1, 1);
            x.wipe();
            String text = LEAST + row;
            Check.write(x, text);
            due("lay()", x.lay(), 1);
            due("STEPS as told", x.count(3), row.length() / 5);
            due("told nights", x.count(5), 0);
            due("KEPT", x.count(6), 0);
            due("back()", x.back(), NO);
            due("bytes", x.count(4), text.length());
            due("fault()", x.fault(), NONE);
            due("lay() of the text that stayed", x.lay(), 1);
        }
    }

    /** A smaller house behind a greater one: nothing of that is left. */
    private static void laidAnew() {
        bounds.sentence(5, "SORTS, ASKS, MODES: such as there are", "1 without", "50, 2 without");
        StageSieve x = Check.laid("s20,2,1,10;".repeat(6) + "a1,1,1,1;".repeat(6) + "c9;p9,9;");
        due("does(5, 5, 0, 0)", x.does(5, 5, 0, 0), 2);
        due("left(-1)", x.left(-1), 120000000);
        due("night(0, 0)", x.night(0, 0), 120);
        due("best(1, 5, 0, -1)", x.best(1, 5, 0, -1) >= 0 ? 1 : 0, 1);
        x.wipe();
        Check.write(x, "s2,1,1,1;a1,1,1,30;");
        due("lay()", x.lay(), 2);
        due("does(1, 0, 0, 0)", x.does(1, 0, 0, 0), BAD);
        due("does(0, 1, 0, 0)", x.does(0, 1, 0, 0), BAD);
        due("man(0)", x.man(0), 1);
        due("man(1)", x.man(1), 10);
        due("relief(0, 0, 1)", x.relief(0, 0, 1), 10);
        due("best(1, 5, 0, -1)", x.best(1, 5, 0, -1), NONE);
        due("tells()", x.tells(), NONE);
        due("odds(2)", x.odds(2), 1000000);
        StageSieve first = Check.laid("s2,1,1,1;a1,1,1,30;");
        due("answers as of an object that had no other house", State.of(x).equals(State.of(first)) ? 1 : 0, 1);
        x.wipe();
        Check.write(x, "s2,1,1,1;a1,1,1,30;c2;");
        due("man(1) ahead of lay", x.man(1), 10);
        x.lay();
        due("man(1) behind lay", x.man(1), 5);
    }

    private static void ofSeveralTheLast() {
        bounds.sentence(5, "of several such the last one counts");
        StageSieve x = Check.laid("c10;c0;p99,10;" + LEAST + "c3;p70,1;c4;p20,3;");
        due("man(0)", x.man(0), 2);
        due("man(1)", x.man(1), 5);
        due("relief(0, 0, 1)", x.relief(0, 0, 1), 6);
        StageSieve again = Check.laid(LEAST + "c5;c1;p1,1;p50,2;");
        due("man(1), as without", again.man(1), 10);
        due("relief(0, 0, 1), as without", again.relief(0, 0, 1), 10);
    }

    private static void fullTextLaid() {
        bounds.sentence(5, "A TEXT is bytes (400 at most)");
        StageSieve x = new StageSieve();
        Check.write(x, laidOf(397) + "c8;");
        due("lay of 400 bytes", x.lay(), 1);
        due("the last item of 400 bytes", x.man(0), 4);
        due("lay of 400 bytes without a last ;", laidPeople(laidOf(397) + "c08"), NO);
    }

    // ---- promise 6: does

    private static void modesAndNumbers() {
        bounds.sentence(6, "BAD: a number is none that is told (SORTS, ASKS, MODES: such as there are)");
        bounds.numbers("does(#, 0, 0, 2)", Bounds.HOUSE, 0, 1, (x, sort) -> x.does(sort, 0, 0, 2));
        bounds.numbers("does(0, #, 0, 2)", Bounds.HOUSE, 0, 1, (x, ask) -> x.does(0, ask, 0, 2));
        bounds.numbers("does(0, 0, #, 2)", Bounds.HOUSE, 0, 3, (x, mode) -> x.does(0, 0, mode, 2));
        bounds.numbers("does(0, 0, 0, #)", Bounds.HOUSE, 0, 2, (x, what) -> x.does(0, 0, 0, what));
        StageSieve full = Check.laid("s20,1,1,1;".repeat(5) + "s20,7,1,1;" + "a1,1,1,1;".repeat(5) + "a2,1,1,1;");
        due("does(5, 5, 0, 0)", full.does(5, 5, 0, 0), 6);
        due("does(6, 5, 0, 0)", full.does(6, 5, 0, 0), BAD);
        due("does(5, 6, 0, 0)", full.does(5, 6, 0, 0), BAD);
    }

    private static StageSieve house(int bent, int wish, int fear, int hard, int help, int pose) {
        return Check.laid("s1," + bent + "," + wish + "," + fear + ";a" + hard + "," + help + "," + pose + ",1;");
    }

    private static void felt() {
        bounds.sentence(6, "FELT by a SORT at an ASK, in tenths, 0 at least, 10 at most: B and V less H (STAGE, ALONE)");
        int[][] cases = {{10, 0, 0, 10}, {10, 0, 1, 10}, {10, 0, 10, 10}, {9, 0, 0, 9}, {9, 0, 1, 10}, {0, 0, 0, 0}, {0, 1, 0, 0},
            {0, 10, 0, 0}, {1, 0, 0, 1}, {0, 9, 10, 1}, {0, 10, 10, 0}, {10, 10, 0, 0}, {10, 10, 10, 10}, {10, 9, 0, 1}, {1, 2, 0, 0}};
        for (int[] c : cases) {
            StageSieve x = house(c[0], 0, 0, c[1], c[2], 10);
            due("STAGE, B " + c[0] + " H " + c[1] + " V " + c[2], x.does(0, 0, 0, 0), c[3]);
            due("ALONE, B " + c[0] + " H " + c[1] + " V " + c[2], x.does(0, 0, 3, 0), c[3]);
        }
    }

    private static void feltPlain() {
        bounds.sentence(6, "FELT by a SORT at an ASK, in tenths, 0 at least, 10 at most", "B less H (PLAIN)");
        int[][] cases = {{10, 0, 10}, {9, 0, 9}, {0, 0, 0}, {0, 1, 0}, {0, 10, 0}, {10, 9, 1}, {10, 10, 0}, {9, 10, 0}, {1, 0, 1}};
        for (int[] c : cases) {
            due("PLAIN, B " + c[0] + " H " + c[1], house(c[0], 0, 0, c[1], 10, 10).does(0, 0, 1, 0), c[2]);
        }
    }

    private static void notFeltAsIf() {
        bounds.sentence(6, "FELT by a SORT at an ASK", "0 (AS IF)");
        due("AS IF of the greatest", house(10, 10, 10, 0, 10, 0).does(0, 0, 2, 0), 0);
        due("AS IF of the least", house(0, 0, 0, 10, 0, 10).does(0, 0, 2, 0), 0);
    }

    private static void played() {
        bounds.sentence(6, "PLAY, in tenths, 0 at least, 10 at most: W and F less E (STAGE)");
        int[][] cases = {{10, 0, 0, 10}, {0, 10, 0, 10}, {10, 1, 0, 10}, {10, 10, 0, 10}, {10, 10, 10, 10}, {9, 0, 0, 9}, {0, 0, 0, 0},
            {0, 0, 1, 0}, {0, 0, 10, 0}, {1, 0, 0, 1}, {0, 1, 0, 1}, {5, 5, 9, 1}, {5, 5, 10, 0}, {5, 4, 10, 0}, {10, 1, 1, 10}};
        for (int[] c : cases) {
            due("STAGE, W " + c[0] + " F " + c[1] + " E " + c[2], house(0, c[0], c[1], 10, 0, c[2]).does(0, 0, 0, 1), c[3]);
        }
    }

    private static void playedPlain() {
        bounds.sentence(6, "PLAY, in tenths, 0 at least, 10 at most", "W less E (PLAIN)");
        int[][] cases = {{10, 0, 10}, {9, 0, 9}, {0, 0, 0}, {0, 1, 0}, {0, 10, 0}, {10, 9, 1}, {10, 10, 0}, {9, 10, 0}};
        for (int[] c : cases) {
            due("PLAIN, W " + c[0] + " E " + c[1], house(0, c[0], 10, 10, 0, c[1]).does(0, 0, 1, 1), c[2]);
        }
    }

    private static void playedAsIfAndAlone() {
        bounds.sentence(6, "PLAY", "10 less E (AS IF), 0 (ALONE)");
        due("AS IF, E 0", house(0, 0, 0, 10, 0, 0).does(0, 0, 2, 1), 10);
        due("AS IF, E 9", house(10, 10, 10, 0, 10, 9).does(0, 0, 2, 1), 1);
        due("AS IF, E 10", house(10, 10, 10, 0, 10, 10).does(0, 0, 2, 1), 0);
        due("ALONE of the greatest", house(10, 10, 10, 0, 10, 0).does(0, 0, 3, 1), 0);
    }

    private static void done() {
        bounds.sentence(6, "DO, in hundredths: 10 times FELT, and (10 less FELT) times PLAY");
        int[][] cases = {{10, 0, 100}, {10, 10, 100}, {0, 10, 100}, {0, 0, 0}, {9, 9, 99}, {9, 0, 90}, {1, 0, 10}, {0, 1, 10}, {1, 1, 19}};
        for (int[] c : cases) {
            due("FELT " + c[0] + " PLAY " + c[1], house(c[0], c[1], 0, 0, 0, 0).does(0, 0, 0, 2), c[2]);
        }
        due("ALONE, FELT 1", house(1, 10, 10, 0, 0, 0).does(0, 0, 3, 2), 10);
        due("AS IF, PLAY 10", house(1, 0, 0, 0, 0, 0).does(0, 0, 2, 2), 100);
    }

    // ---- promise 7: step

    private static void stepNumbers() {
        bounds.sentence(7, "A STEP more of THE ROW: how many. BAD");
        bounds.numbers("step(#, 0)", Bounds.HOUSE, 0, 1, (x, ask) -> x.step(ask, 0));
        bounds.numbers("step(0, #)", Bounds.HOUSE, 0, 1, (x, keep) -> x.step(0, keep));
        StageSieve full = Check.laid("s1,1,1,1;" + "a1,1,1,1;".repeat(6));
        due("step(5, 1)", full.step(5, 1), 1);
        due("step(6, 1)", full.step(6, 1), BAD);
        due("count(3)", full.count(3), 1);
    }

    private static void eightSteps() {
        bounds.sentence(7, "FULL: 8");
        StageSieve x = new StageSieve();
        for (int steps = 1; steps <= 8; steps++) {
            due("step(0, 0)", x.step(0, 0), steps);
        }
        due("step(0, 0) behind 8", x.step(0, 0), FULL);
        due("count(3) then", x.count(3), 8);
        Bounds.Calls eight = y -> {
            Bounds.HOUSE.on(y);
            for (int steps = 3; steps <= 8; steps++) {
                y.step(0, steps % 2);
            }
        };
        bounds.refused("step behind 8", eight, y -> {
            due("step(0, 0) behind 8", y.step(0, 0), FULL);
            due("step(1, 1) behind 8", y.step(1, 1), FULL);
        });
    }

    private static void badStepAheadOfFull() {
        bounds.sentence(7, "Of several the first in this order", "BAD; FULL: 8");
        Bounds.Calls eight = x -> {
            Check.write(x, LEAST + "t0,0;".repeat(8));
            x.lay();
        };
        bounds.bad("step(#, 0) behind 8", eight, 1, (x, ask) -> x.step(ask, 0));
        bounds.bad("step(0, #) behind 8", eight, 2, (x, keep) -> x.step(0, keep));
        bounds.bad("step(0, #) behind 8", eight, -1, (x, keep) -> x.step(0, keep));
    }

    private static void stepsBehindToldOnes() {
        bounds.sentence(7, "THE ROW may be told anew by STEPS");
        StageSieve seven = Check.laid(LEAST + "t0,0;".repeat(7));
        due("step behind 7 told", seven.step(0, 1), 8);
        due("step behind 8", seven.step(0, 1), FULL);
        due("step behind 8 told", Check.laid(LEAST + "t0,0;".repeat(8)).step(0, 1), FULL);
    }

    // ---- promise 8: noRow

    private static void noRow() {
        bounds.sentence(8, "THE ROW is empty: how many STEPS it had");
        StageSieve x = Check.laid(LEAST + "t0,0;".repeat(8));
        due("of 8", x.noRow(), 8);
        due("of none", x.noRow(), 0);
        due("count(3)", x.count(3), 0);
        due("left(-1)", x.left(-1), 1000000);
        for (int steps = 1; steps <= 8; steps++) {
            due("step then", x.step(0, 0), steps);
        }
        due("step behind 8 of them", x.step(0, 0), FULL);
        x.noRow();
        x.step(0, 0);
        due("of 1", x.noRow(), 1);
        bounds.refused("noRow() of an empty row", y -> {
            Bounds.HOUSE.on(y);
            y.noRow();
        }, y -> due("noRow() twice", y.noRow(), 0));
        StageSieve house = Bounds.made(Bounds.HOUSE);
        house.noRow();
        due("told nights stay", house.count(5), 2);
        due("KEPT stays", house.count(6), 1);
    }
}
