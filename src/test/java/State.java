import java.util.ArrayList;
import java.util.List;
import java.util.function.Consumer;
import java.util.function.ToLongFunction;

/**
 * What can be seen of an object from outside, for a past: the calls that were made on it. The past is told again
 * on new objects, a few hundred questions on each, so that no object gets more than its 512 calls.
 */
final class State {
    private static final int QUESTIONS_OF_AN_OBJECT = 300;
    private static final List<String> NAMES = new ArrayList<>();
    private static final List<ToLongFunction<TheatreSaga>> QUESTIONS = new ArrayList<>();

    static {
        askForTours();
        askForTowns();
        askForAccounts();
    }

    private State() {
    }

    private static void ask(String name, ToLongFunction<TheatreSaga> question) {
        NAMES.add(name);
        QUESTIONS.add(question);
    }

    private static void askForTours() {
        for (int i = 0; i < 6; i++) {
            int tour = i;
            for (int j = 0; j < 9; j++) {
                int what = j;
                ask("tourOf " + tour + " " + what, x -> x.tourOf(tour, what));
            }
            for (int j = 0; j < 40; j++) {
                int cell = j;
                ask("stepOf " + tour + " " + j / 5 + " " + j % 5, x -> x.stepOf(tour, cell / 5, cell % 5));
            }
            ask("faultOf " + tour, x -> x.faultOf(tour));
            ask("endsIn " + tour, x -> x.endsIn(tour));
            ask("costs " + tour, x -> x.costs(tour));
            ask("ranked " + tour, x -> x.ranked(tour));
        }
    }

    private static void askForTowns() {
        for (int i = 0; i < 20; i++) {
            int cell = i;
            ask("townOf " + i / 4 + " " + i % 4, x -> x.townOf(cell / 4, cell % 4));
        }
        for (int i = 0; i < 300; i++) {
            int cell = i;
            String place = i / 100 + " " + i / 20 % 5 + " " + i % 20;
            ask("left " + place, x -> x.left(cell / 100, cell / 20 % 5, cell % 20));
            ask("leftAgain " + place, x -> x.leftAgain(cell / 100, cell / 20 % 5, cell % 20));
        }
    }

    private static void askForAccounts() {
        for (int i = 0; i < 17; i++) {
            int what = i;
            ask("number " + what, x -> x.number(what));
        }
        ask("coinsAgain", TheatreSaga::coinsAgain);
        ask("meanSteps", x -> Double.doubleToLongBits(x.meanSteps()));
        ask("failedShare", x -> Float.floatToIntBits(x.failedShare()));
        for (int i = 0; i < 3; i++) {
            int kind = i;
            ask("cheapest " + kind, x -> x.cheapest(kind, 0, 1));
        }
    }

    /** What changes can change, what it was before each change that can be undone, and what is in the snapshot. */
    static List<String> changeable(Consumer<TheatreSaga> past) {
        List<String> state = new ArrayList<>();
        Consumer<TheatreSaga> then = past;
        for (int undos = 0; undos <= 9; undos++) {
            look(state, undos + " undone: ", then);
            then = then.andThen(x -> Check.answer(x::undo));
        }
        look(state, "restored: ", past.andThen(x -> Check.answer(x::restoreSnapshot)));
        return state;
    }

    /** What changes can change, as it is now. */
    static List<String> now(Consumer<TheatreSaga> past) {
        List<String> state = new ArrayList<>();
        look(state, "", past);
        return state;
    }

    private static void look(List<String> state, String when, Consumer<TheatreSaga> past) {
        TheatreSaga x = null;
        for (int i = 0; i < QUESTIONS.size(); i++) {
            if (i % QUESTIONS_OF_AN_OBJECT == 0) {
                x = Edge.made(past);
            }
            TheatreSaga asked = x;
            ToLongFunction<TheatreSaga> question = QUESTIONS.get(i);
            state.add(when + NAMES.get(i) + " = " + Check.answer(() -> question.applyAsLong(asked)));
        }
    }

    /** What is neither undone nor saved: the line, the refusal, the fault position and the input. */
    static List<String> kept(Consumer<TheatreSaga> past) {
        List<String> state = new ArrayList<>();
        TheatreSaga x = Edge.made(past);
        for (int i = 0; i < 76; i++) {
            int at = i;
            state.add("character " + i + " = " + Check.answer(() -> x.character(at)));
        }
        state.add("reason = " + Check.answer(() -> x.refusal(true)));
        state.add("detail = " + Check.answer(() -> x.refusal(false)));
        state.add("fault = " + Check.answer(x::faultPosition));
        state.add("input = " + x.number(17));
        state.add("read = " + Check.answer(x::read));
        state.add("fault of the input = " + Check.answer(x::faultPosition));
        state.add("reason of the input = " + Check.answer(() -> x.refusal(true)));
        state.add("detail of the input = " + Check.answer(() -> x.refusal(false)));
        return state;
    }
}
