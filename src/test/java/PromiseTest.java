import java.util.NoSuchElementException;

/** Each promise of the document by hand: ordinary inputs, the edges that it names, and wrong inputs. */
public final class PromiseTest {
    private static final Class<IndexOutOfBoundsException> INDEX = IndexOutOfBoundsException.class;
    private static final Class<IllegalArgumentException> ARGUMENT = IllegalArgumentException.class;
    private static final Class<UnsupportedOperationException> REFUSED = UnsupportedOperationException.class;
    private static final Class<NoSuchElementException> NONE = NoSuchElementException.class;
    private static final Class<IllegalStateException> STATE = IllegalStateException.class;
    private static final Class<ArithmeticException> ARITHMETIC = ArithmeticException.class;
    private static final int[] WILD = {Integer.MIN_VALUE, -1, Integer.MAX_VALUE};

    private PromiseTest() {
    }

    public static void main(String[] args) {
        newObject();
        examples();
        readme();
        tour();
        step();
        start();
        back();
        backward();
        tourOf();
        stepOf();
        asMuchAsCanBe();
        shut();
        dear();
        townOf();
        pass();
        faultsInOrder();
        hoursByNumbers();
        left();
        faultOf();
        endsIn();
        costs();
        cheapest();
        ranked();
        line();
        number();
        accounts();
        feed();
        read();
        readRefused();
        faultPosition();
        refusal();
        undo();
        snapshots();
        Check.end("PromiseTest");
    }

    private static void type(TheatreSaga x, String text) {
        for (char sign : text.toCharArray()) {
            x.feed(sign);
        }
    }

    /** Reads a text, and returns the number of commands. */
    private static int tell(TheatreSaga x, String text) {
        type(x, text);
        return x.read();
    }

    private static void refused(String what, TheatreSaga x, int reason, int detail) {
        Check.answers(what + ": reason", () -> x.refusal(true), reason);
        Check.answers(what + ": detail", () -> x.refusal(false), detail);
    }

    private static String lineOf(TheatreSaga x, int tour) {
        StringBuilder line = new StringBuilder();
        int length = x.line(tour);
        for (int i = 0; i < length; i++) {
            line.append(x.character(i));
        }
        return line.toString();
    }

    private static void newObject() {
        TheatreSaga x = new TheatreSaga();
        int[] due = {0, 0, 0, 0, 0, 0, 0, 100, 0, 0, 0, 0, 0, 0, 5, 0, 0, 0};
        for (int what = 0; what < due.length; what++) {
            Check.same("number " + what + " of a new object", x.number(what), due[what]);
        }
        for (int town = 0; town < 5; town++) {
            Check.same("open", x.townOf(town, 0), 1);
            Check.same("dearness", x.townOf(town, 1), 2);
            Check.same("halls", x.left(0, town, 19), 1);
            Check.same("wagons", x.left(1, town, 0), 4);
            Check.same("beds", x.left(2, town, 7), 12);
        }
        TheatreSaga other = new TheatreSaga();
        other.tour(0);
        Check.same("objects do not share", x.number(1), 0);
    }

    private static void examples() {
        TheatreSaga x = new TheatreSaga();
        Check.same("example 1", x.tour(0), 0);
        Check.same("example 1", x.step(0, 0, 1, 3, 1), 1);
        Check.same("example 1", x.step(0, 1, 1, 3, 2), 2);
        Check.same("example 1", x.start(0), 1);
        Check.same("example 1", x.endsIn(0), 2);
        Check.same("example 1", x.pass(2), 1);
        Check.same("example 1", x.tourOf(0, 0), 3);
        Check.same("example 1", x.number(7), 90);
        TheatreSaga y = new TheatreSaga();
        Check.same("example 2", y.tour(1), 0);
        Check.same("example 2", y.step(0, 0, 2, 5, 1), 1);
        Check.same("example 2", y.start(0), 1);
        Check.same("example 2", y.shut(2, true), 4);
        Check.same("example 2", y.pass(1), 0);
        Check.same("example 2", y.tourOf(0, 4), 1);
        Check.same("example 2", y.pass(1), 1);
        Check.same("example 2", y.tourOf(0, 0), 4);
        Check.same("example 2", y.tourOf(0, 5), 1);
        TheatreSaga z = new TheatreSaga();
        Check.same("example 3", z.tour(0), 0);
        Check.same("example 3", z.step(0, 2, 0, 0, 9), 1);
        Check.same("example 3", z.step(0, 2, 4, 0, 1), 2);
        Check.same("example 3", z.start(0), 1);
        Check.same("example 3", z.pass(1), 0);
        Check.same("example 3", z.back(0), 1);
        Check.same("example 3", z.pass(1), 1);
        Check.same("example 3", z.tourOf(0, 7), 9);
        Check.same("example 3", z.line(0), 16);
    }

    /** What README.md shows. */
    private static void readme() {
        TheatreSaga theatre = new TheatreSaga();
        int tour = theatre.tour(1);
        theatre.step(tour, 0, 2, 5, 1);
        theatre.start(tour);
        Check.same("README", theatre.endsIn(tour), 1);
        theatre.pass(1);
        Check.same("README", theatre.number(7), 98);
        Check.refuses("README", () -> theatre.start(tour), REFUSED);
        refused("README", theatre, 2, 3);
        TheatreSaga told = new TheatreSaga();
        Check.same("README", tell(told, "tour 1;hall 0 2/5;start 0;hours 1"), 4);
        Check.same("README", lineOf(told, 0), lineOf(theatre, tour));
        Check.same("README", told.number(7), 98);
    }

    private static void tour() {
        TheatreSaga x = new TheatreSaga();
        for (int wild : WILD) {
            Check.refuses("tour " + wild, () -> x.tour(wild), ARGUMENT);
        }
        Check.refuses("tour 5", () -> x.tour(5), ARGUMENT);
        for (int i = 0; i < 6; i++) {
            int limit = i % 5;
            Check.answers("tour", () -> x.tour(limit), i);
            Check.same("its limit", x.tourOf(i, 1), limit);
            Check.same("its steps", x.tourOf(i, 2), 0);
        }
        Check.refuses("a seventh tour with a wrong limit", () -> x.tour(5), ARGUMENT);
        Check.refuses("nothing was refused yet", () -> x.refusal(true), NONE);
        Check.refuses("a seventh tour", () -> x.tour(0), REFUSED);
        refused("a seventh tour", x, 1, 6);
        Check.same("tours", x.number(1), 6);
        Check.same("changes", x.number(16), 6);
    }

    private static void step() {
        TheatreSaga x = new TheatreSaga();
        x.tour(0);
        for (int wild : WILD) {
            Check.refuses("tour " + wild, () -> x.step(wild, 0, 0, 0, 1), INDEX);
            Check.refuses("kind " + wild, () -> x.step(0, wild, 0, 0, 1), ARGUMENT);
            Check.refuses("town " + wild, () -> x.step(0, 0, wild, 0, 1), INDEX);
            Check.refuses("day " + wild, () -> x.step(0, 0, 0, wild, 1), INDEX);
            Check.refuses("many " + wild, () -> x.step(0, 2, 0, 0, wild), ARGUMENT);
            Check.refuses("day and kind " + wild, () -> x.step(0, wild, 0, wild, 1), INDEX);
        }
        Check.refuses("tour 1", () -> x.step(1, 0, 0, 0, 1), INDEX);
        Check.refuses("kind 3", () -> x.step(0, 3, 0, 0, 1), ARGUMENT);
        Check.refuses("town 5", () -> x.step(0, 0, 5, 0, 1), INDEX);
        Check.refuses("day 20", () -> x.step(0, 0, 0, 20, 1), INDEX);
        int[] most = {1, 4, 12};
        for (int kind = 0; kind < 3; kind++) {
            int k = kind;
            Check.refuses("none of kind " + k, () -> x.step(0, k, 0, 0, 0), ARGUMENT);
            Check.refuses("too many of kind " + k, () -> x.step(0, k, 0, 0, most[k] + 1), ARGUMENT);
            Check.answers("the most of kind " + k, () -> x.step(0, k, 4, 19, most[k]), k + 1);
        }
        Check.refuses("the same step", () -> x.step(0, 1, 4, 19, 1), REFUSED);
        refused("the same step", x, 5, 1);
        Check.answers("another town", () -> x.step(0, 1, 3, 19, 1), 4);
        Check.answers("another day", () -> x.step(0, 1, 4, 18, 1), 5);
        for (int day = 0; day < 3; day++) {
            x.step(0, 2, 0, day, 1);
        }
        Check.refuses("a ninth step", () -> x.step(0, 2, 0, 3, 1), REFUSED);
        refused("a ninth step", x, 1, 8);
        Check.refuses("a ninth step, the same", () -> x.step(0, 2, 0, 2, 1), REFUSED);
        refused("a ninth step, the same", x, 5, 7);
        x.start(0);
        Check.refuses("a step of a tour that runs", () -> x.step(0, 2, 0, 2, 1), REFUSED);
        refused("a step of a tour that runs", x, 2, 1);
        Check.same("steps", x.tourOf(0, 2), 8);
    }

    private static void start() {
        TheatreSaga x = new TheatreSaga();
        Check.refuses("start of no tour", () -> x.start(0), INDEX);
        tell(x, "tour 0;tour 0;tour 0;hall 0 0/0;hall 2 1/0");
        for (int wild : WILD) {
            Check.refuses("start " + wild, () -> x.start(wild), INDEX);
        }
        Check.refuses("start 3", () -> x.start(3), INDEX);
        Check.refuses("start without a step", () -> x.start(1), REFUSED);
        refused("start without a step", x, 3, 1);
        Check.answers("start", () -> x.start(2), 1);
        Check.answers("start", () -> x.start(0), 2);
        Check.refuses("start again", () -> x.start(0), REFUSED);
        refused("start again", x, 2, 1);
        x.pass(1);
        Check.refuses("start of a tour that is done", () -> x.start(2), REFUSED);
        refused("start of a tour that is done", x, 2, 3);
        x.step(1, 0, 0, 1, 1);
        Check.answers("one runs, two are done", () -> x.start(1), 1);
    }

    private static void back() {
        TheatreSaga x = new TheatreSaga();
        tell(x, "tour 0;beds 0 0/0x9;hall 0 1/1;start 0;tour 2;hall 1 2/2");
        for (int wild : WILD) {
            Check.refuses("back " + wild, () -> x.back(wild), INDEX);
        }
        Check.refuses("back 2", () -> x.back(2), INDEX);
        Check.refuses("back of a planned tour", () -> x.back(1), REFUSED);
        refused("back of a planned tour", x, 2, 0);
        x.start(1);
        Check.answers("back without a booked step", () -> x.back(1), 0);
        Check.same("it is undone", x.tourOf(1, 0), 4);
        Check.same("its cause", x.tourOf(1, 5), 4);
        Check.refuses("back of a tour that is undone", () -> x.back(1), REFUSED);
        refused("back of a tour that is undone", x, 2, 4);
        x.pass(1);
        Check.answers("back with a booked step", () -> x.back(0), 1);
        Check.same("it goes back", x.tourOf(0, 0), 2);
        Check.refuses("back again", () -> x.back(0), REFUSED);
        refused("back again", x, 2, 2);
    }

    private static void backward() {
        TheatreSaga x = new TheatreSaga();
        tell(x, "tour 4;hall 0 0/0;beds 0 1/0x3;hall 0 2/0;shut 2;start 0");
        x.pass(3);
        x.dear(1, 3);
        Check.same("a try that failed", x.tourOf(0, 4), 1);
        Check.same("two are booked", x.back(0), 2);
        Check.same("counted from 0 anew", x.tourOf(0, 4), 0);
        Check.same("the cause", x.tourOf(0, 5), 4);
        x.shut(1, true);
        x.pass(7);
        Check.same("backward there is no limit", x.tourOf(0, 4), 7);
        Check.same("the cause of the latest try", x.tourOf(0, 5), 1);
        Check.same("it still goes back", x.tourOf(0, 0), 2);
        x.shut(1, false);
        Check.same("the last step first", x.pass(1), 0);
        Check.same("half of what was paid came back", x.tourOf(0, 7), 3);
        Check.same("from 0 anew when a step is undone", x.tourOf(0, 4), 0);
        Check.same("the cause stays", x.tourOf(0, 5), 1);
        Check.same("the beds are left again", x.left(2, 1, 0), 12);
        Check.same("the hall is not yet", x.left(0, 0, 0), 0);
        Check.same("then it is undone", x.pass(1), 1);
        Check.same("undone", x.tourOf(0, 0), 4);
        Check.same("the coins", x.number(7), 91);
        Check.same("the tries", x.number(12), 12);
        Check.same("the failed ones", x.number(13), 8);
        TheatreSaga y = new TheatreSaga();
        tell(y, "tour 0;beds 0 0/0x1;hall 0 1/0;start 0;shut 1");
        y.dear(0, 3);
        y.pass(1);
        Check.same("it turns back in the hour in which the limit is gone above", y.pass(1), 0);
        Check.same("and is tried backward in the next hour", y.tourOf(0, 3), 1);
        Check.same("the next hour", y.pass(1), 1);
        Check.same("half of three, rounded down", y.number(9), 1);
    }

    private static void tourOf() {
        TheatreSaga x = new TheatreSaga();
        tell(x, "tour 3;hall 0 0/0;wagons 0 1/0x3;start 0");
        x.pass(1);
        x.shut(1, true);
        x.pass(2);
        int[] due = {1, 3, 2, 1, 2, 1, 12, 0, 0};
        for (int what = 0; what < due.length; what++) {
            Check.same("tourOf " + what, x.tourOf(0, what), due[what]);
        }
        x.shut(1, false);
        x.pass(1);
        int[] dueThen = {3, 3, 2, 2, 0, 1, 24, 0, 10};
        for (int what = 0; what < dueThen.length; what++) {
            Check.same("tourOf " + what + " when it is done", x.tourOf(0, what), dueThen[what]);
        }
        for (int wild : WILD) {
            Check.refuses("tourOf " + wild, () -> x.tourOf(wild, 0), INDEX);
            Check.refuses("what " + wild, () -> x.tourOf(0, wild), ARGUMENT);
            Check.refuses("both " + wild, () -> x.tourOf(wild, wild), INDEX);
        }
        Check.refuses("tourOf 1", () -> x.tourOf(1, 0), INDEX);
        Check.refuses("what 9", () -> x.tourOf(0, 9), ARGUMENT);
    }

    private static void stepOf() {
        TheatreSaga x = new TheatreSaga();
        tell(x, "tour 0;wagons 0 3/17x4;beds 0 2/5x11;start 0");
        int[][] due = {{1, 3, 17, 4, 0}, {2, 2, 5, 11, 0}};
        for (int what = 0; what < 5; what++) {
            Check.same("stepOf 0 " + what, x.stepOf(0, 0, what), due[0][what]);
            Check.same("stepOf 1 " + what, x.stepOf(0, 1, what), due[1][what]);
        }
        x.dear(3, 5);
        x.pass(1);
        x.dear(3, 1);
        Check.same("paid at the dearness of then", x.stepOf(0, 0, 4), 40);
        Check.same("not booked yet", x.stepOf(0, 1, 4), 0);
        x.back(0);
        x.pass(1);
        Check.same("not booked any more", x.stepOf(0, 0, 4), 0);
        for (int wild : WILD) {
            Check.refuses("tour " + wild, () -> x.stepOf(wild, 0, 0), INDEX);
            Check.refuses("step " + wild, () -> x.stepOf(0, wild, 9), INDEX);
            Check.refuses("what " + wild, () -> x.stepOf(0, 0, wild), ARGUMENT);
        }
        Check.refuses("step 2", () -> x.stepOf(0, 2, 0), INDEX);
        Check.refuses("what 5", () -> x.stepOf(0, 1, 5), ARGUMENT);
    }

    private static void asMuchAsCanBe() {
        TheatreSaga x = new TheatreSaga();
        for (int tour = 0; tour < 6; tour++) {
            x.tour(tour % 5);
            for (int step = 0; step < 8; step++) {
                x.step(tour, 2, (tour + step) % 5, 2 * step + tour, 1);
            }
        }
        for (int town = 0; town < 5; town++) {
            x.dear(town, 1);
        }
        for (int tour = 5; tour >= 0; tour--) {
            Check.same("they run", x.start(tour), 6 - tour);
            Check.same("what it would cost", x.costs(tour), 8);
        }
        Check.same("all are done in the last hour", x.pass(7) * 10 + x.pass(1), 6);
        for (int tour = 0; tour < 6; tour++) {
            for (int step = 0; step < 8; step++) {
                Check.same("the town", x.stepOf(tour, step, 1), (tour + step) % 5);
                Check.same("the day", x.stepOf(tour, step, 2), 2 * step + tour);
                Check.same("paid", x.stepOf(tour, step, 4), 1);
                Check.same("left", x.left(2, (tour + step) % 5, 2 * step + tour), 11);
                Check.same("left again", x.leftAgain(2, (tour + step) % 5, 2 * step + tour), 11);
            }
            Check.same("the limit", x.tourOf(tour, 1), tour % 5);
            Check.same("nothing more", x.costs(tour), 0);
        }
        int[] booked = {10, 10, 10, 9, 9};
        for (int town = 0; town < 5; town++) {
            Check.same("booked there", x.townOf(town, 2), booked[town]);
            Check.same("paid there", x.townOf(town, 3), booked[town]);
        }
        Check.same("all booked steps", x.number(15), 48);
        Check.same("all coins", x.number(7), 52);
        Check.same("all coins again", x.coinsAgain(), 52);
    }

    private static void shut() {
        TheatreSaga x = new TheatreSaga();
        for (int wild : WILD) {
            Check.refuses("shut " + wild, () -> x.shut(wild, true), INDEX);
        }
        Check.refuses("shut 5", () -> x.shut(5, true), INDEX);
        Check.refuses("open what is open", () -> x.shut(0, false), REFUSED);
        refused("open what is open", x, 4, 1);
        Check.answers("shut", () -> x.shut(0, true), 4);
        Check.answers("shut", () -> x.shut(4, true), 3);
        Check.refuses("shut what is shut", () -> x.shut(4, true), REFUSED);
        refused("shut what is shut", x, 4, 0);
        Check.same("as much is left", x.left(2, 4, 0), 12);
        Check.same("it is shut", x.townOf(4, 0), 0);
        Check.same("open towns", x.number(14), 3);
        Check.answers("open", () -> x.shut(4, false), 4);
        Check.same("it is open", x.townOf(4, 0), 1);
    }

    private static void dear() {
        TheatreSaga x = new TheatreSaga();
        for (int wild : WILD) {
            Check.refuses("town " + wild, () -> x.dear(wild, 0), INDEX);
            Check.refuses("dearness " + wild, () -> x.dear(0, wild), ARGUMENT);
        }
        Check.refuses("town 5", () -> x.dear(5, 1), INDEX);
        Check.refuses("dearness 0", () -> x.dear(0, 0), ARGUMENT);
        Check.refuses("dearness 6", () -> x.dear(0, 6), ARGUMENT);
        Check.answers("dear", () -> x.dear(4, 5), 2);
        Check.answers("dear", () -> x.dear(4, 1), 5);
        Check.answers("as dear as before", () -> x.dear(4, 1), 1);
        Check.same("it is a change though", x.number(16), 3);
        Check.same("the others stay", x.townOf(3, 1), 2);
    }

    private static void townOf() {
        TheatreSaga x = new TheatreSaga();
        tell(x, "tour 0;hall 0 3/0;beds 0 3/1x7;wagons 0 2/0x1;start 0");
        x.pass(2);
        int[] due = {1, 2, 2, 26};
        for (int what = 0; what < 4; what++) {
            Check.same("townOf 3 " + what, x.townOf(3, what), due[what]);
        }
        x.back(0);
        x.pass(1);
        Check.same("booked there", x.townOf(3, 2), 1);
        Check.same("paid there so far", x.townOf(3, 3), 26);
        Check.same("nothing elsewhere", x.townOf(2, 2) + x.townOf(2, 3), 0);
        for (int wild : WILD) {
            Check.refuses("town " + wild, () -> x.townOf(wild, 9), INDEX);
            Check.refuses("what " + wild, () -> x.townOf(0, wild), ARGUMENT);
        }
        Check.refuses("town 5", () -> x.townOf(5, 0), INDEX);
        Check.refuses("what 4", () -> x.townOf(4, 4), ARGUMENT);
    }

    private static void pass() {
        TheatreSaga x = new TheatreSaga();
        for (int wild : WILD) {
            Check.refuses("pass " + wild, () -> x.pass(wild), ARGUMENT);
        }
        Check.refuses("pass 0", () -> x.pass(0), ARGUMENT);
        Check.refuses("pass 41", () -> x.pass(41), ARGUMENT);
        Check.answers("pass 1", () -> x.pass(1), 0);
        Check.answers("pass 40", () -> x.pass(40), 0);
        Check.same("the hour", x.number(0), 41);
        tell(x, "tour 1;hall 0 0/0;start 0;tour 0;hall 1 0/0;start 1");
        Check.answers("one is done, one undone", () -> x.pass(3), 2);
        Check.same("tries of those that are over", x.number(12), 2);
        tell(x, "tour 1;hall 2 0/0;hall 2 1/0;start 2");
        x.pass(1);
        Check.same("one failed", x.tourOf(2, 4), 1);
        Check.same("the cause", x.tourOf(2, 5), 2);
        Check.answers("as many as the limit and 1 together", () -> x.pass(1), 1);
        Check.same("undone at once", x.tourOf(2, 0), 4);
        Check.same("counted from 0 anew", x.tourOf(2, 4), 0);
    }

    private static void faultsInOrder() {
        TheatreSaga x = new TheatreSaga();
        tell(x, "tour 0;hall 0 0/0;start 0;hours 1");
        for (int day = 0; day < 2; day++) {
            tell(x, "tour 0");
            x.step(day + 1, 2, 1, day, 12);
            x.dear(1, day == 0 ? 5 : 3);
            x.start(day + 1);
            x.pass(1);
        }
        Check.same("coins", x.number(7), 2);
        tell(x, "tour 4;hall 3 0/0;tour 0;hall 4 2/0;start 3;start 4");
        Check.same("too little is left, ahead of too few coins", x.faultOf(3), 2);
        Check.same("too few coins", x.faultOf(4), 3);
        x.shut(0, true);
        Check.same("the town is shut, ahead of all", x.faultOf(3), 1);
        x.pass(1);
        Check.same("the cause", x.tourOf(3, 5), 1);
        Check.same("the cause", x.tourOf(4, 5), 3);
        x.shut(0, false);
        x.pass(1);
        Check.same("the cause of the latest", x.tourOf(3, 5), 2);
        Check.same("two of different faults count for the step", x.tourOf(3, 4), 2);
        TheatreSaga y = new TheatreSaga();
        tell(y, "tour 0;beds 0 0/0x12;beds 0 1/0x12");
        tell(y, "wagons 0 0/0x1;start 0");
        y.dear(0, 5);
        y.dear(1, 3);
        y.pass(2);
        Check.same("coins", y.number(7), 4);
        y.dear(0, 2);
        Check.same("just as many coins as it costs are enough", y.pass(1), 1);
        Check.same("no coin", y.number(7), 0);
    }

    private static void hoursByNumbers() {
        TheatreSaga x = new TheatreSaga();
        tell(x, "tour 0;tour 0;hall 1 0/0;hall 0 0/0;start 1;start 0");
        x.pass(1);
        Check.same("tour 0 is first, though it was started later", x.tourOf(0, 0), 3);
        Check.same("tour 1 finds nothing left", x.tourOf(1, 0), 4);
        TheatreSaga y = new TheatreSaga();
        tell(y, "tour 0;hall 0 0/0;hall 0 1/0;start 0;tour 4;hall 1 0/0");
        y.start(1);
        y.pass(1);
        y.back(0);
        Check.same("the hall is taken", y.faultOf(1), 2);
        Check.same("what came back in an hour is left in the same hour", y.pass(1), 2);
        Check.same("tour 1 is done", y.tourOf(1, 0), 3);
    }

    private static void left() {
        TheatreSaga x = new TheatreSaga();
        tell(x, "tour 0;wagons 0 4/19x3;beds 0 4/19x5;start 0");
        x.pass(1);
        Check.same("left", x.left(1, 4, 19), 1);
        Check.same("left again", x.leftAgain(1, 4, 19), 1);
        Check.same("not booked yet", x.left(2, 4, 19), 12);
        Check.same("not booked yet", x.leftAgain(2, 4, 19), 12);
        Check.same("another day", x.left(1, 4, 18) + x.leftAgain(1, 4, 18), 8);
        x.shut(4, true);
        Check.same("shut", x.left(1, 4, 19) + x.leftAgain(1, 4, 19), 2);
        x.shut(4, false);
        x.back(0);
        x.pass(1);
        Check.same("undone", x.left(1, 4, 19), 4);
        Check.same("undone", x.leftAgain(1, 4, 19), 4);
        int[][] wrong = {{3, 0, 0}, {-1, 0, 0}, {0, 5, 0}, {0, -1, 0}, {0, 0, 20}, {0, 0, -1},
            {Integer.MIN_VALUE, 0, 0}, {0, Integer.MAX_VALUE, 0}, {0, 0, Integer.MAX_VALUE}};
        for (int[] place : wrong) {
            Check.refuses("left of nothing", () -> x.left(place[0], place[1], place[2]), INDEX);
            Check.refuses("left again of nothing", () -> x.leftAgain(place[0], place[1], place[2]), INDEX);
        }
    }

    private static void faultOf() {
        TheatreSaga x = new TheatreSaga();
        Check.refuses("no tour", () -> x.faultOf(0), INDEX);
        tell(x, "tour 0;hall 0 0/0;hall 0 1/0");
        Check.refuses("planned", () -> x.faultOf(0), NONE);
        x.start(0);
        Check.same("no fault", x.faultOf(0), 0);
        x.pass(1);
        x.shut(0, true);
        Check.same("the next step is elsewhere", x.faultOf(0), 0);
        x.back(0);
        Check.same("backward the last booked step counts", x.faultOf(0), 1);
        x.shut(0, false);
        Check.same("backward nothing else is a fault", x.faultOf(0), 0);
        x.pass(1);
        Check.refuses("undone", () -> x.faultOf(0), NONE);
        for (int wild : WILD) {
            Check.refuses("tour " + wild, () -> x.faultOf(wild), INDEX);
        }
        tell(x, "tour 0;hall 1 0/0;start 1;hours 1");
        Check.refuses("done", () -> x.faultOf(1), NONE);
    }

    private static void endsIn() {
        TheatreSaga x = new TheatreSaga();
        Check.refuses("no tour", () -> x.endsIn(0), INDEX);
        tell(x, "tour 4;hall 0 0/0;hall 0 1/0;hall 0 2/0;shut 2");
        Check.refuses("planned", () -> x.endsIn(0), NONE);
        x.start(0);
        Check.same("two steps, five tries, two back", x.endsIn(0), 9);
        Check.same("nothing went by", x.number(0), 0);
        x.shut(1, true);
        Check.same("one step, five tries, one back", x.endsIn(0), 7);
        x.pass(6);
        x.shut(0, true);
        Check.refuses("it does not end", () -> x.endsIn(0), NONE);
        x.shut(0, false);
        Check.same("one hour", x.endsIn(0), 1);
        x.pass(1);
        Check.same("undone", x.endsIn(0), 0);
        for (int wild : WILD) {
            Check.refuses("tour " + wild, () -> x.endsIn(wild), INDEX);
        }
        TheatreSaga y = new TheatreSaga();
        tell(y, "tour 0;hall 0 0/0;start 0;tour 4;hall 1 0/0;start 1");
        Check.same("others take what it needs", y.endsIn(1), 5);
        y.pass(5);
        Check.same("as was told", y.tourOf(1, 0), 4);
    }

    private static void costs() {
        TheatreSaga x = new TheatreSaga();
        Check.refuses("no tour", () -> x.costs(0), INDEX);
        tell(x, "tour 0;hall 0 0/0;wagons 0 1/0x3;beds 0 2/0x5");
        Check.same("planned", x.costs(0), 34);
        x.dear(1, 5);
        Check.same("dearer", x.costs(0), 52);
        x.shut(1, true);
        x.start(0);
        x.pass(1);
        Check.same("without the booked one, shut or not", x.costs(0), 40);
        x.pass(2);
        Check.same("undone steps count", x.costs(0), 52);
        tell(x, "tour 0;hall 1 0/0;start 1;hours 1");
        Check.same("done", x.costs(1), 0);
        for (int wild : WILD) {
            Check.refuses("tour " + wild, () -> x.costs(wild), INDEX);
        }
    }

    private static void cheapest() {
        TheatreSaga x = new TheatreSaga();
        Check.same("the lowest of several", x.cheapest(0, 0, 1), 0);
        x.dear(0, 3);
        x.dear(3, 1);
        Check.same("the least dear", x.cheapest(2, 19, 12), 3);
        x.shut(3, true);
        Check.same("the least dear that is open", x.cheapest(2, 19, 12), 1);
        x.shut(3, false);
        tell(x, "tour 0;wagons 0 3/0x1;start 0;hours 1");
        Check.same("just enough is left", x.cheapest(1, 0, 3), 3);
        Check.same("not enough is left", x.cheapest(1, 0, 4), 1);
        Check.same("on another day", x.cheapest(1, 1, 4), 3);
        for (int wild : WILD) {
            Check.refuses("kind " + wild, () -> x.cheapest(wild, 0, 0), INDEX);
            Check.refuses("day " + wild, () -> x.cheapest(0, wild, 13), INDEX);
            Check.refuses("many " + wild, () -> x.cheapest(0, 0, wild), ARGUMENT);
        }
        Check.refuses("kind 3", () -> x.cheapest(3, 0, 1), INDEX);
        Check.refuses("day 20", () -> x.cheapest(0, 20, 1), INDEX);
        Check.refuses("none", () -> x.cheapest(0, 0, 0), ARGUMENT);
        Check.refuses("13", () -> x.cheapest(2, 0, 13), ARGUMENT);
        Check.refuses("two halls", () -> x.cheapest(0, 0, 2), NONE);
        tell(x, "shut 0;shut 1;shut 2;shut 3");
        x.dear(4, 5);
        Check.same("the only one that is open", x.cheapest(2, 0, 1), 4);
        x.shut(4, true);
        Check.refuses("all are shut", () -> x.cheapest(2, 0, 1), NONE);
    }

    private static void ranked() {
        TheatreSaga x = new TheatreSaga();
        Check.refuses("no tour", () -> x.ranked(0), NONE);
        tell(x, "tour 0;hall 0 0/0;hall 0 1/0;tour 0;tour 0;hall 2 2/0");
        tell(x, "tour 0;hall 3 3/0;hall 3 4/0;hall 3 4/1;start 3;hours 1");
        int[] due = {3, 1, 2, 0};
        for (int place = 0; place < 4; place++) {
            Check.same("ranked " + place, x.ranked(place), due[place]);
        }
        tell(x, "tour 0;start 2;hours 1;back 3;hours 2");
        int[] dueThen = {2, 1, 4, 0, 3};
        for (int place = 0; place < 5; place++) {
            Check.same("ranked then " + place, x.ranked(place), dueThen[place]);
        }
        for (int wild : WILD) {
            Check.refuses("place " + wild, () -> x.ranked(wild), NONE);
        }
        Check.refuses("place 5", () -> x.ranked(5), NONE);
    }

    private static void line() {
        TheatreSaga x = new TheatreSaga();
        Check.refuses("no tour", () -> x.line(0), INDEX);
        Check.refuses("the line is empty at first", () -> x.character(0), INDEX);
        tell(x, "tour 0;tour 0;tour 0;hall 2 1/3;wagons 2 1/3x2");
        tell(x, "beds 2 4/10x12;start 2;hours 2");
        Check.same("the line of the document", lineOf(x, 2), "2r h1/3 w1/3x2| b4/10x12");
        Check.same("a planned tour", lineOf(x, 1), "1p");
        Check.refuses("behind its end", () -> x.character(2), INDEX);
        for (int wild : WILD) {
            Check.refuses("line " + wild, () -> x.line(wild), INDEX);
            Check.refuses("character " + wild, () -> x.character(wild), INDEX);
        }
        x.undo();
        Check.same("the line stays", x.character(1), 'p');
        tell(x, "beds 2 4/10x12;start 2;hours 2;back 2");
        Check.same("back", lineOf(x, 2), "2b h1/3 w1/3x2| b4/10x12");
        x.pass(2);
        Check.same("undone", lineOf(x, 2), "2u h1/3 w1/3x2 b4/10x12");
        tell(x, "wagons 1 0/9x1;start 1;hours 1");
        Check.same("done", lineOf(x, 1), "1d w0/9x1|");
        x.saveSnapshot();
        x.restoreSnapshot();
        Check.refuses("no such tour", () -> x.line(3), INDEX);
        Check.same("the line stays", x.character(9), '|');
        TheatreSaga y = new TheatreSaga();
        y.tour(0);
        for (int day = 10; day < 18; day++) {
            y.step(0, 2, 0, day, 12);
        }
        Check.same("the longest line", y.line(0), 74);
    }

    private static void number() {
        TheatreSaga x = new TheatreSaga();
        tell(x, "tour 0;tour 0;hall 1 0/0;start 1;tour 0;hall 2 0/0;start 2");
        x.tour(0);
        tell(x, "beds 3 1/0x3;beds 3 2/0x4;shut 4;start 3");
        tell(x, "tour 4;hall 4 4/0;start 4;hours 1;back 3");
        type(x, "ha");
        int[] due = {1, 5, 1, 1, 1, 1, 1, 92, 18, 0, 10, 0, 4, 2, 4, 2, 4, 2};
        for (int what = 0; what < due.length; what++) {
            Check.same("number " + what, x.number(what), due[what]);
        }
        x.pass(1);
        Check.same("came back", x.number(9), 3);
        Check.same("undone", x.number(6), 2);
        Check.same("tries", x.number(12), 6);
        for (int wild : WILD) {
            Check.refuses("number " + wild, () -> x.number(wild), ARGUMENT);
        }
        Check.refuses("number 18", () -> x.number(18), ARGUMENT);
    }

    private static void accounts() {
        TheatreSaga x = new TheatreSaga();
        Check.same("coins again at first", x.coinsAgain(), 100);
        Check.refuses("the mean of none", () -> (long) x.meanSteps(), ARITHMETIC);
        Check.refuses("the share of none", () -> (long) x.failedShare(), ARITHMETIC);
        tell(x, "tour 0;tour 0;tour 0;hall 0 0/0;beds 0 0/0x7;hall 1 0/0");
        tell(x, "hall 2 1/1;hall 2 2/2;start 0;start 1;start 2;hours 1");
        x.back(2);
        x.pass(3);
        Check.yes("the mean", x.meanSteps() == 5.0 / 3.0);
        Check.yes("the share", x.failedShare() == 1f / 5f);
        Check.same("coins", x.number(7), 78);
        Check.same("coins again", x.coinsAgain(), 78);
    }

    private static void feed() {
        TheatreSaga x = new TheatreSaga();
        for (int i = 1; i <= 60; i++) {
            Check.same("feed", x.feed((char) (i * 999)), i);
        }
        Check.refuses("feed 61", () -> x.feed('a'), STATE);
        Check.same("the input", x.number(17), 60);
        Check.refuses("no text", x::read, ARGUMENT);
        Check.same("the input is empty", x.number(17), 0);
        Check.same("feed anew", x.feed(';'), 1);
        x.tour(0);
        x.undo();
        x.saveSnapshot();
        x.restoreSnapshot();
        Check.same("the input stays", x.number(17), 1);
    }

    private static void read() {
        TheatreSaga x = new TheatreSaga();
        Check.same("one command", tell(x, "tour 4"), 1);
        Check.same("it is empty then", x.number(17), 0);
        Check.same("eight commands", tell(x, "tour 3;tour 2;tour 1;tour 0;tour 0;shut 0;open 0;shut 1"), 8);
        Check.same("one change", x.number(16), 2);
        Check.same("the limit", x.tourOf(0, 1), 4);
        Check.same("shut", x.townOf(1, 0), 0);
        Check.same("steps", tell(x, "hall 1 2/05;wagons 1 3/9x4;beds 1 4/19x07;beds 2 0/00x12"), 4);
        Check.same("the hall", lineOf(x, 1), "1p h2/5 w3/9x4 b4/19x7");
        Check.same("the beds", lineOf(x, 2), "2p b0/0x12");
        Check.same("hours", tell(x, "start 1;hours 02;back 1;hours 40"), 4);
        Check.same("undone", lineOf(x, 1), "1u h2/5 w3/9x4 b4/19x7");
        Check.same("the hour", x.number(0), 42);
        Check.same("open", tell(x, "open 1;shut 3;open 3"), 3);
        Check.same("all are open", x.number(14), 5);
        Check.same("the shut town again", x.undo(), 4);
        Check.same("four are open", x.number(14), 4);
        Check.same("all is one change", x.undo(), 3);
        Check.same("the hour", x.number(0), 0);
        Check.same("planned", x.tourOf(1, 0), 0);
    }

    private static void readRefused() {
        String[] texts = {"shut 0;shut 0", "tour 1;start 1", "open 3", "hall 0 0/0", "back 0", "start 0;start 0",
            "tour 5", "tour 0;hall 9 0/0", "hall 0 5/0", "tour 0;tour 0;hall 0 0/20", "wagons 0 0/0x0",
            "hours 0", "hours 1;hours 41", "beds 0 1/1x13", "beds 0 1/1x00", "wagons 0 1/1x5", "shut 5", "open 9",
            "start 1", "back 1", "hours 99", "tour 0;tour 0;tour 0;tour 0;tour 0;tour 0"};
        int[][] due = {{4, 0}, {3, 1}, {4, 1}, {5, 0}, {2, 0}, {2, 1},
            {20, 0}, {20, 1}, {20, 0}, {20, 2}, {20, 0},
            {20, 0}, {20, 1}, {20, 0}, {20, 0}, {20, 0}, {20, 0}, {20, 0},
            {20, 0}, {20, 0}, {20, 0}, {1, 6}};
        for (int i = 0; i < texts.length; i++) {
            TheatreSaga x = new TheatreSaga();
            tell(x, "tour 0;hall 0 0/0");
            type(x, texts[i]);
            Check.refuses(texts[i], x::read, REFUSED);
            refused(texts[i], x, due[i][0], due[i][1]);
            Check.same("the input is empty", x.number(17), 0);
            Check.same("no change", x.number(16), 1);
            Check.same("no hour", x.number(0), 0);
            Check.same("no tour", x.number(1), 1);
            Check.same("planned", x.number(2), 1);
            Check.same("no town is shut", x.number(14), 5);
            Check.refuses("no fault position was kept", x::faultPosition, NONE);
        }
    }

    private static void faultPosition() {
        String[] texts = {"", "t", "x", "tour", "tour ", "tour  1", "tour 12", "tour 1;", "tour 1;;", "tour 1; tour 2",
            "st 1", "sh", "sta", "hours 123", "hours x", "haurs", "houll", "hall 1", "hall 1 ", "hall 1 2", "hall 1 2/",
            "hall 1 23/1", "hall 1 2/345", "hall 1 2/34x1", "wagons 0 1/2", "wagons 0 1/2x", "wagons 0 1/2x12",
            "wagons 0 1/23", "beds 0 1/2x123", "beds 0 1/2y", "be 0", "bac", "back0", "open 1 ", "open -1", "Tour 1",
            "tour 1;hours 5;b", "tour \u0661", "tour 1\u0000", "wagon 0 0/0x1", "hall 0/1", " tour 1", "hours 5x",
            "tour :", "tour /", "hours 1:", "hours 1/"};
        int[] due = {0, 1, 0, 4, 5, 5, 6, 7, 7, 7,
            2, 2, 3, 8, 6, 2, 3, 6, 7, 8, 9,
            8, 11, 11, 12, 13, 14,
            13, 13, 10, 2, 3, 4, 6, 5, 0,
            16, 5, 6, 5, 6, 0, 7,
            5, 5, 7, 7};
        Check.same("a fault for each text", due.length, texts.length);
        for (int i = 0; i < texts.length; i++) {
            TheatreSaga x = new TheatreSaga();
            Check.refuses("none was kept", x::faultPosition, NONE);
            type(x, texts[i]);
            Check.refuses(texts[i], x::read, ARGUMENT);
            Check.answers(texts[i], x::faultPosition, due[i]);
            Check.same("the input is empty", x.number(17), 0);
        }
        TheatreSaga x = new TheatreSaga();
        type(x, "hours 1/");
        Check.refuses("no text", x::read, ARGUMENT);
        tell(x, "tour 0");
        x.undo();
        Check.answers("it stays", x::faultPosition, 7);
        Check.same("nothing was carried out", x.number(1), 0);
        Check.refuses("nothing was refused", () -> x.refusal(true), NONE);
    }

    private static void refusal() {
        TheatreSaga x = new TheatreSaga();
        Check.refuses("none", () -> x.refusal(true), NONE);
        Check.refuses("none", () -> x.refusal(false), NONE);
        x.tour(0);
        Check.refuses("start", () -> x.start(0), REFUSED);
        refused("start", x, 3, 0);
        x.saveSnapshot();
        Check.refuses("open", () -> x.shut(1, false), REFUSED);
        x.undo();
        refused("it stays", x, 4, 1);
        x.restoreSnapshot();
        refused("it stays", x, 4, 1);
        Check.refuses("another exception", () -> x.start(7), INDEX);
        refused("it stays", x, 4, 1);
    }

    private static void undo() {
        TheatreSaga x = new TheatreSaga();
        Check.refuses("nothing", x::undo, STATE);
        x.tour(0);
        x.step(0, 0, 0, 0, 1);
        x.start(0);
        x.pass(1);
        Check.same("number 16", x.number(16), 4);
        Check.same("undo of pass", x.undo(), 3);
        Check.same("it runs", x.tourOf(0, 0), 1);
        Check.same("the tries", x.number(12), 0);
        Check.same("the hall is left", x.left(0, 0, 0), 1);
        Check.same("undo of start", x.undo(), 2);
        Check.same("planned", x.tourOf(0, 0), 0);
        Check.same("undo of step", x.undo(), 1);
        Check.same("no step", x.tourOf(0, 2), 0);
        Check.same("undo of tour", x.undo(), 0);
        Check.refuses("no tour", () -> x.tourOf(0, 0), INDEX);
        Check.refuses("nothing more", x::undo, STATE);
        tell(x, "tour 0;hall 0 0/0;hall 0 1/0;start 0;hours 1");
        x.back(0);
        Check.same("undo of back", x.undo(), 1);
        Check.same("it runs", x.tourOf(0, 0), 1);
        Check.same("the cause", x.tourOf(0, 5), 0);
        Check.same("undo of read", x.undo(), 0);
        Check.same("no tour", x.number(1), 0);
        for (int i = 0; i < 11; i++) {
            x.dear(0, 1 + i % 5);
        }
        x.shut(0, true);
        Check.same("eight", x.number(16), 8);
        for (int i = 7; i >= 0; i--) {
            Check.answers("undo", x::undo, i);
        }
        Check.same("the dearness of then", x.townOf(0, 1), 4);
        Check.refuses("what was forgotten stays forgotten", x::undo, STATE);
        x.shut(2, true);
        Check.refuses("a refusal is no change", () -> x.shut(2, true), REFUSED);
        Check.same("one", x.number(16), 1);
        tell(x, "tour 0;beds 0 1/1x2;start 0;hours 1");
        x.undo();
        x.tour(3);
        Check.same("a tour in the place of one that was undone is new", lineOf(x, 0), "0p");
        Check.same("its limit", x.tourOf(0, 1), 3);
    }

    private static void snapshots() {
        TheatreSaga x = new TheatreSaga();
        Check.refuses("none", x::restoreSnapshot, STATE);
        tell(x, "tour 0;tour 2;hall 1 0/0;start 1;hours 1");
        Check.same("save", x.saveSnapshot(), 2);
        Check.same("it is no change", x.number(16), 1);
        tell(x, "tour 0;hours 5;shut 3");
        x.dear(2, 4);
        Check.same("restore", x.restoreSnapshot(), 2);
        Check.same("the hour", x.number(0), 1);
        Check.same("done", x.tourOf(1, 0), 3);
        Check.same("open", x.number(14), 5);
        Check.same("dearness", x.townOf(2, 1), 2);
        Check.same("the hall", x.left(0, 0, 0), 0);
        Check.same("nothing can be undone", x.number(16), 0);
        Check.refuses("nothing can be undone", x::undo, STATE);
        x.tour(0);
        Check.same("it is kept", x.restoreSnapshot(), 2);
        x.tour(0);
        Check.same("another in its place", x.saveSnapshot(), 3);
        x.undo();
        Check.same("two", x.number(1), 2);
        Check.same("three again", x.restoreSnapshot(), 3);
    }
}
