import java.util.List;
import java.util.NoSuchElementException;
import java.util.function.Consumer;
import java.util.function.ToLongFunction;

/** What the edge tests share: steps in words, pasts, and what must hold behind a call that throws. */
final class Edge {
    static final Class<IndexOutOfBoundsException> INDEX = IndexOutOfBoundsException.class;
    static final Class<IllegalArgumentException> ARGUMENT = IllegalArgumentException.class;
    static final Class<UnsupportedOperationException> REFUSED = UnsupportedOperationException.class;
    static final Class<NoSuchElementException> NONE = NoSuchElementException.class;
    static final Class<IllegalStateException> STATE = IllegalStateException.class;
    static final Class<ArithmeticException> ARITHMETIC = ArithmeticException.class;
    static final Consumer<TheatreSaga> BUSY = Edge::busy;
    static final int LEAST = Integer.MIN_VALUE;
    static final int MOST = Integer.MAX_VALUE;

    private Edge() {
    }

    static TheatreSaga made(Consumer<TheatreSaga> past) {
        TheatreSaga x = new TheatreSaga();
        past.accept(x);
        return x;
    }

    // ---- steps in words

    static int[] hall(int town, int day) {
        return new int[] {0, town, day, 1};
    }

    static int[] wagons(int town, int day, int many) {
        return new int[] {1, town, day, many};
    }

    static int[] beds(int town, int day, int many) {
        return new int[] {2, town, day, many};
    }

    static int plan(TheatreSaga x, int limit, int[]... steps) {
        int tour = x.tour(limit);
        for (int[] step : steps) {
            x.step(tour, step[0], step[1], step[2], step[3]);
        }
        return tour;
    }

    static int run(TheatreSaga x, int limit, int[]... steps) {
        int tour = plan(x, limit, steps);
        x.start(tour);
        return tour;
    }

    static void makeAllDear(TheatreSaga x, int dearness) {
        for (int town = 0; town < 5; town++) {
            x.dear(town, dearness);
        }
    }

    static void type(TheatreSaga x, String text) {
        for (char sign : text.toCharArray()) {
            x.feed(sign);
        }
    }

    static int tell(TheatreSaga x, String text) {
        type(x, text);
        return x.read();
    }

    static String lineOf(TheatreSaga x, int tour) {
        StringBuilder line = new StringBuilder();
        int length = x.line(tour);
        for (int i = 0; i < length; i++) {
            line.append(x.character(i));
        }
        return line.toString();
    }

    // ---- pasts

    static void nothing(TheatreSaga x) {
    }

    /** Tour 0 is planned, 1 runs and fails, 2 goes back and fails, 3 is done, 4 is undone; towns 3 and 4 are shut. */
    static void busy(TheatreSaga x) {
        plan(x, 1, beds(0, 0, 5), hall(0, 1));
        run(x, 4, wagons(1, 2, 3), hall(4, 2));
        run(x, 2, beds(2, 3, 7), hall(3, 3), hall(2, 4));
        run(x, 0, hall(1, 5));
        run(x, 3, hall(0, 6));
        x.back(4);
        x.shut(4, true);
        x.pass(2);
        x.saveSnapshot();
        x.shut(3, true);
        x.back(2);
        x.pass(1);
        x.dear(1, 5);
        x.dear(0, 3);
        x.line(1);
        Check.answer(() -> x.shut(3, true));
        x.feed('q');
        Check.answer(x::read);
        x.feed('t');
        x.feed('o');
    }

    /** As busy, and as many tours as can be: tour 5 is planned, with as many steps as can be. */
    static void full(TheatreSaga x) {
        busy(x);
        plan(x, 4, hall(0, 0), hall(0, 1), wagons(0, 0, 1), wagons(1, 0, 4), beds(0, 0, 1), beds(0, 1, 12),
            beds(4, 19, 6), hall(4, 19));
    }

    // ---- what must hold behind a call that throws

    /** The call throws, and leaves all as it was. */
    static void leaves(String what, Consumer<TheatreSaga> past, Class<? extends RuntimeException> due,
            ToLongFunction<TheatreSaga> call) {
        TheatreSaga x = made(past);
        Check.refuses(what, () -> call.applyAsLong(x), due);
        Consumer<TheatreSaga> then = past.andThen(y -> Check.answer(() -> call.applyAsLong(y)));
        Check.same(what + ", which leaves the state", State.changeable(then), State.changeable(past));
        Check.same(what + ", which leaves what is kept", State.kept(then), State.kept(past));
    }

    /** The call is refused, for this reason and with this detail, and leaves all else as it was. */
    static void isRefused(String what, Consumer<TheatreSaga> past, int reason, int detail,
            ToLongFunction<TheatreSaga> call) {
        TheatreSaga x = made(past);
        Check.refuses(what, () -> call.applyAsLong(x), REFUSED);
        Check.answers(what + ": reason", () -> x.refusal(true), reason);
        Check.answers(what + ": detail", () -> x.refusal(false), detail);
        Consumer<TheatreSaga> then = past.andThen(y -> Check.answer(() -> call.applyAsLong(y)));
        Check.same(what + ", which leaves the state", State.changeable(then), State.changeable(past));
        Check.same(what + ", which leaves what is kept", withoutRefusal(State.kept(then)),
            withoutRefusal(State.kept(past)));
    }

    private static List<String> withoutRefusal(List<String> kept) {
        return kept.stream().filter(line -> !line.startsWith("reason") && !line.startsWith("detail")).toList();
    }

    /** The input is emptied, then this text is typed and read: it is no text, and the fault position is this. */
    static void isNoText(String text, Consumer<TheatreSaga> past, int fault) {
        Consumer<TheatreSaga> typed = past.andThen(x -> typeAnew(x, text));
        TheatreSaga x = made(typed);
        String refusal = Check.answer(() -> x.refusal(true)) + Check.answer(() -> x.refusal(false));
        Check.refuses("no text: " + text, x::read, ARGUMENT);
        Check.answers("fault position of " + text, x::faultPosition, fault);
        Check.same("the input behind " + text, x.number(17), 0);
        Check.same("the refusal behind " + text,
            Check.answer(() -> x.refusal(true)) + Check.answer(() -> x.refusal(false)), refusal);
        Consumer<TheatreSaga> then = typed.andThen(y -> Check.answer(y::read));
        Check.same("no text leaves the state: " + text, State.changeable(then), State.changeable(typed));
    }

    /** The input is emptied, then this text is typed and read: a command is refused, and nothing carried out. */
    static void isTextRefused(String text, Consumer<TheatreSaga> past, int reason, int detail) {
        Consumer<TheatreSaga> typed = past.andThen(x -> typeAnew(x, text));
        TheatreSaga x = made(typed);
        String fault = Check.answer(x::faultPosition);
        Check.refuses("refused: " + text, x::read, REFUSED);
        Check.answers("reason of " + text, () -> x.refusal(true), reason);
        Check.answers("detail of " + text, () -> x.refusal(false), detail);
        Check.same("the input behind " + text, x.number(17), 0);
        Check.same("the fault position behind " + text, Check.answer(x::faultPosition), fault);
        Consumer<TheatreSaga> then = typed.andThen(y -> Check.answer(y::read));
        Check.same("a refused text leaves the state: " + text, State.changeable(then), State.changeable(typed));
    }

    private static void typeAnew(TheatreSaga x, String text) {
        if (x.number(17) > 0) {
            Check.answer(x::read);
        }
        type(x, text);
    }
}
