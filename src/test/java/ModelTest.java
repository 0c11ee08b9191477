import java.util.Random;

/** Long runs of drawn calls (a fixed seed), each answer held against the model's. */
public final class ModelTest {
    private static final int RUNS = 1000;
    private static final int CALLS = 512;
    private static final Check check = new Check();
    private static Random random;
    private static StageSieve x;
    private static Model model;
    private static int run;

    public static void main(String[] args) {
        for (run = 0; run < RUNS; run++) {
            random = new Random(run);
            x = new StageSieve();
            model = new Model();
            int calls = 0;
            if (run % 8 != 0) {
                calls += tellHouse(run % 3 == 0 ? oddHouse() : house());
            }
            for (; calls < CALLS; calls++) {
                call(random.nextInt(100));
            }
        }
        check.end();
    }

    private static void same(String call, long got, long due) {
        check.due("run " + run + ": " + call, got, due);
    }

    private static int upTo(int most) {
        return random.nextInt(most + 1);
    }

    /** Mostly a number from 0 to most, now and then one beside it. */
    private static int about(int most) {
        int kind = random.nextInt(40);
        if (kind == 0) {
            return -1 - upTo(2);
        }
        if (kind == 1) {
            return most + 1 + upTo(2);
        }
        return kind == 2 ? (random.nextBoolean() ? Integer.MIN_VALUE : Integer.MAX_VALUE) : upTo(Math.max(0, most));
    }

    private static String numbers(int... all) {
        StringBuilder text = new StringBuilder();
        for (int i = 0; i < all.length; i++) {
            text.append(i == 0 ? "" : ",").append(upTo(9) == 0 && all[i] < 100 ? "0" : "").append(all[i]);
        }
        return text.append(';').toString();
    }

    private static String house() {
        StringBuilder text = new StringBuilder();
        int sorts = 1 + upTo(5);
        for (int i = 0; i < sorts; i++) {
            int most = random.nextBoolean() ? 20 : 4;
            text.append('s').append(numbers(1 + upTo(most - 1), upTo(10), upTo(10), upTo(5)));
        }
        int asks = 1 + upTo(5);
        for (int i = 0; i < asks; i++) {
            text.append('a').append(numbers(upTo(10), upTo(10), upTo(10), 1 + upTo(29)));
        }
        int steps = upTo(8);
        for (int i = 0; i < steps; i++) {
            text.append('t').append(numbers(upTo(asks - 1), upTo(3) == 0 ? 1 : 0));
        }
        for (int i = upTo(2); i > 0; i--) {
            text.append('c').append(numbers(upTo(10)));
            text.append('p').append(numbers(upTo(99), upTo(10)));
        }
        return text.toString();
    }

    /** Items in any order, now and then not so. */
    private static String oddHouse() {
        StringBuilder text = new StringBuilder();
        for (int items = 2 + upTo(20); items > 0; items--) {
            char letter = "ssaattcp".charAt(upTo(7));
            text.append(letter);
            switch (letter) {
                case 's': text.append(numbers(1 + upTo(30), upTo(10), upTo(10), upTo(upTo(9) == 0 ? 11 : 10))); break;
                case 'a': text.append(numbers(upTo(10), upTo(10), upTo(10), upTo(30))); break;
                case 't': text.append(numbers(upTo(2), upTo(1))); break;
                case 'c': text.append(numbers(upTo(10))); break;
                default: text.append(numbers(upTo(99), upTo(10))); break;
            }
            if (upTo(30) == 0) {
                text.setCharAt(upTo(text.length() - 1), ",;0x5\u0000\u00ff".charAt(upTo(6)));
            }
        }
        return text.substring(0, Math.min(400, text.length()));
    }

    /** Tells a house anew: how many calls it took. */
    private static int tellHouse(String text) {
        int calls = 3;
        same("wipe", x.wipe(), model.wipe());
        for (int from = 0; from < text.length();) {
            int n = Math.min(text.length() - from, 1 + upTo(7));
            long v = random.nextLong();
            for (int i = 0; i < n; i++) {
                v = v << 8 | text.charAt(from + i);
            }
            same("write", x.write(n, v), model.write(n, v));
            from += n;
            calls++;
        }
        same("fault of " + text, x.fault(), model.fault());
        same("lay of " + text, x.lay(), model.lay());
        return calls;
    }

    private static void call(int kind) {
        if (kind < 50) {
            callToChange(kind);
        } else {
            callToAsk(kind - 50);
        }
    }

    private static void callToChange(int kind) {
        int sort = about(model.count(0) - 1);
        int ask = about(model.count(1) - 1);
        int k = about(1);
        int n = about(4);
        int d = about(Math.min(4, Math.max(0, n)));
        if (kind < 22) {
            same("step", x.step(ask, k), model.step(ask, k));
        } else if (kind < 26) {
            same("noRow", x.noRow(), model.noRow());
        } else if (kind < 34) {
            same("tell", x.tell(sort, ask, n, d), model.tell(sort, ask, n, d));
        } else if (kind < 37) {
            same("forget", x.forget(), model.forget());
        } else if (kind < 40) {
            same("keep", x.keep(), model.keep());
        } else if (kind < 43) {
            same("back", x.back(), model.back());
        } else if (kind < 45) {
            int bytes = about(8);
            long v = random.nextLong();
            same("write", x.write(bytes, v), model.write(bytes, v));
        } else if (kind < 47) {
            same("fault", x.fault(), model.fault());
        } else if (kind < 48) {
            same("lay", x.lay(), model.lay());
        } else if (upTo(5) == 0) {
            tellHouse(upTo(2) == 0 ? oddHouse() : house());
        }
    }

    private static void callToAsk(int kind) {
        int sort = about(model.count(0) - 1);
        int ask = about(model.count(1) - 1);
        int two = about(1);
        int three = about(2);
        int mode = about(3);
        int c = about(12);
        int z = about(9999);
        switch (kind / 2) {
            case 0: same("does", x.does(sort, ask, mode, three), model.does(sort, ask, mode, three)); break;
            case 1: same("left", x.left(sort), model.left(sort)); break;
            case 2: same("left", x.left(-1), model.left(-1)); break;
            case 3: same("share", x.share(sort), model.share(sort)); break;
            case 4: same("bent", x.bent(two), model.bent(two)); break;
            case 5: case 6: same("odds", x.odds(c), model.odds(c)); break;
            case 7: best(c); break;
            case 8: same("felt", x.felt(ask, mode, two), model.felt(ask, mode, two)); break;
            case 9: same("words", x.words(ask), model.words(ask)); break;
            case 10: same("harm", x.harm(ask, two), model.harm(ask, two)); break;
            case 11: same("people", x.people(two), model.people(two)); break;
            case 12: same("tells", x.tells(), model.tells()); break;
            case 13: same("relief", x.relief(sort, ask, two), model.relief(sort, ask, two)); break;
            case 14: int q = upTo(1) == 0 ? about(99) : about(9);
                same("worth", x.worth(ask, q), model.worth(ask, q)); break;
            case 15: case 16: same("man", x.man(two), model.man(two)); break;
            case 17: case 18: case 19: same("night", x.night(z, three), model.night(z, three)); break;
            case 20: case 21: int i = about(model.night(z < 0 || z > 9999 ? 0 : z, 0));
                same("one", x.one(z, i), model.one(z, i)); break;
            case 22: int few = about(upTo(1) == 0 ? 12 : 120);
                same("nights", x.nights(z, few), model.nights(z, few)); break;
            default: int what = about(6);
                same("count", x.count(what), model.count(what)); break;
        }
    }

    private static void best(int c) {
        // three steps are dear in the model: not so often
        int n = upTo(39) == 0 ? about(3) : upTo(2);
        int minutes = about(upTo(2) == 0 ? 90 : 30);
        for (int i = -1; i < Math.min(n, 3); i++) {
            same("best", x.best(n, minutes, c, i), model.best(n, minutes, c, i));
        }
        int i = about(2);
        same("best", x.best(n, minutes, c, i), model.best(n, minutes, c, i));
    }
}
