import java.util.ArrayList;
import java.util.List;

/**
 * Whatever can be asked of an object, in some 350 calls: two objects that answer alike are in the same
 * state. It takes back what is KEPT and lays THE TEXT, so the object is of no use behind it.
 */
final class State {
    private static final int GREATEST = 9;

    private final StageSieve x;
    private final List<Long> answers = new ArrayList<>();

    private State(StageSieve x) {
        this.x = x;
    }

    static List<Long> of(StageSieve x) {
        State state = new State(x);
        state.askHouse();
        state.askCourse();
        for (int kept = 0; kept < 2; kept++) {
            state.add(x.back());
            state.askCourse();
        }
        state.add(x.fault());
        state.add(x.lay());
        state.askHouse();
        state.askCourse();
        return state.answers;
    }

    private void add(long answer) {
        answers.add(answer);
    }

    private void askHouse() {
        for (int what = 0; what <= 6; what++) {
            add(x.count(what));
        }
        if (x.count(0) * x.count(1) > GREATEST) {
            throw new IllegalArgumentException("a house too great for 512 calls");
        }
        for (int sort = 0; sort < x.count(0); sort++) {
            for (int ask = 0; ask < x.count(1); ask++) {
                for (int mode = 0; mode < 4; mode++) {
                    add(x.does(sort, ask, mode, 0));
                    add(x.does(sort, ask, mode, 1));
                }
            }
        }
        add(x.relief(0, 0, 0));
        add(x.relief(0, 0, 1));
        add(x.worth(0, 0));
        add(x.words(0));
        add(x.harm(0, 0));
        add(x.harm(0, 1));
        add(x.felt(0, 0, 0));
        add(x.felt(0, 0, 1));
        add(x.people(0));
        add(x.people(1));
        add(x.tells());
        add(x.bent(0));
        // how many minutes the asks take
        for (int minutes = 0; minutes <= 5; minutes++) {
            add(x.best(1, minutes, 1, -1));
        }
    }

    private void askCourse() {
        add(x.count(3));
        add(x.count(5));
        for (int sort = -1; sort < x.count(0); sort++) {
            add(x.left(sort));
        }
        add(x.share(0));
        add(x.bent(1));
        add(x.odds(0));
        add(x.odds(1));
        add(x.man(0));
        add(x.man(1));
        for (int z = 0; z < 3; z++) {
            add(x.night(z, 0));
            add(x.night(z, 1));
            add(x.night(z, 2));
            add(x.one(z, 0));
            add(x.one(z, 1));
        }
    }
}
