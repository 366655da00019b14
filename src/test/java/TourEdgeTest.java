import java.util.List;
import java.util.function.Consumer;

/** The promises 1 to 11, sentence by sentence: the edges of what the calls take, and what they leave behind. */
public final class TourEdgeTest {
    private static final int[] FAR = {Edge.LEAST, -1, Edge.MOST};

    private TourEdgeTest() {
    }

    public static void main(String[] args) {
        promise1NothingThere();
        promise1HundredCoins();
        promise2Limit();
        promise2Number();
        promise2WithoutSteps();
        promise2Refused();
        promise3NoSuchThing();
        promise3OutOfRange();
        promise3BehindItsOthers();
        promise3Refused();
        promise3SameStep();
        promise4();
        promise4HowManyRun();
        promise5();
        promise5HowManyAreBooked();
        promise6();
        promise6Numbers();
        promise7();
        promise7Numbers();
        promise8();
        promise9();
        promise10();
        promise10Numbers();
        promise11();
        promise11HowManyAreOver();
        Check.end("TourEdgeTest");
    }

    // ---- Promise 1: a new object

    /** "Creates a theatre without tours": whatever needs one finds none. */
    private static void promise1NothingThere() {
        Consumer<TheatreSaga> past = Edge::nothing;
        Edge.leaves("step", past, Edge.INDEX, x -> x.step(0, 0, 0, 0, 1));
        Edge.leaves("start", past, Edge.INDEX, x -> x.start(0));
        Edge.leaves("back", past, Edge.INDEX, x -> x.back(0));
        Edge.leaves("tourOf", past, Edge.INDEX, x -> x.tourOf(0, 0));
        Edge.leaves("stepOf", past, Edge.INDEX, x -> x.stepOf(0, 0, 0));
        Edge.leaves("faultOf", past, Edge.INDEX, x -> x.faultOf(0));
        Edge.leaves("endsIn", past, Edge.INDEX, x -> x.endsIn(0));
        Edge.leaves("costs", past, Edge.INDEX, x -> x.costs(0));
        Edge.leaves("line", past, Edge.INDEX, x -> x.line(0));
        Edge.leaves("ranked", past, Edge.NONE, x -> x.ranked(0));
        Edge.leaves("character", past, Edge.INDEX, x -> x.character(0));
        Edge.leaves("meanSteps", past, Edge.ARITHMETIC, x -> (long) x.meanSteps());
        Edge.leaves("failedShare", past, Edge.ARITHMETIC, x -> (long) x.failedShare());
        Edge.leaves("faultPosition", past, Edge.NONE, TheatreSaga::faultPosition);
        Edge.leaves("reason", past, Edge.NONE, x -> x.refusal(true));
        Edge.leaves("detail", past, Edge.NONE, x -> x.refusal(false));
        Edge.leaves("undo", past, Edge.STATE, TheatreSaga::undo);
        Edge.leaves("restoreSnapshot", past, Edge.STATE, TheatreSaga::restoreSnapshot);
        Edge.isNoText("", past, 0);
    }

    /** "... with 100 coins", and without anything else. */
    private static void promise1HundredCoins() {
        TheatreSaga x = new TheatreSaga();
        for (int what = 0; what <= 17; what++) {
            Check.same("number " + what, x.number(what), what == 7 ? 100 : what == 14 ? 5 : 0);
        }
        Check.same("coins again", x.coinsAgain(), 100);
        for (int town = 0; town < 5; town++) {
            Check.same("no step is booked there", x.townOf(town, 2), 0);
            Check.same("nothing is paid there", x.townOf(town, 3), 0);
        }
        Check.same("a snapshot without tours", x.saveSnapshot(), 0);
        Check.same("a snapshot without tours, restored", x.restoreSnapshot(), 0);
        List<String> fresh = State.now(Edge::nothing);
        Check.same("another object is made, and changed", Edge.made(Edge::busy).number(1), 5);
        Check.same("objects share nothing", State.now(Edge::nothing), fresh);
    }

    // ---- Promise 2: tour

    /** "Throws IllegalArgumentException if the limit is out of range." */
    private static void promise2Limit() {
        for (int limit : FAR) {
            Edge.leaves("limit " + limit, Edge::busy, Edge.ARGUMENT, x -> x.tour(limit));
        }
        Edge.leaves("limit 5", Edge::busy, Edge.ARGUMENT, x -> x.tour(5));
        for (int limit = 0; limit <= 4; limit++) {
            TheatreSaga x = Edge.made(Edge::busy);
            Check.same("the sixth one", x.tour(limit), 5);
            Check.same("its limit", x.tourOf(5, 1), limit);
        }
    }

    /** "Returns its number." */
    private static void promise2Number() {
        TheatreSaga x = new TheatreSaga();
        for (int tour = 0; tour < 6; tour++) {
            Check.same("its number", x.tour(0), tour);
            Check.same("the tours", x.number(1), tour + 1);
            int next = tour + 1;
            Check.refuses("not the next one yet", () -> x.tourOf(next, 0), Edge.INDEX);
        }
        x.undo();
        Check.same("the number of one that was undone", x.tour(3), 5);
    }

    /** "Plans a tour, without steps": nothing is on it from one that was undone, or not restored. */
    private static void promise2WithoutSteps() {
        TheatreSaga x = new TheatreSaga();
        x.saveSnapshot();
        Edge.tell(x, "tour 3;hall 0 1/1;beds 0 1/2x3;shut 1;start 0;hours 2");
        x.undo();
        Check.same("the first again", x.tour(4), 0);
        int[] due = {0, 4, 0, 0, 0, 0, 0, 0, 0};
        for (int what = 0; what < 9; what++) {
            Check.same("a new tour " + what, x.tourOf(0, what), due[what]);
        }
        Check.refuses("no step", () -> x.stepOf(0, 0, 0), Edge.INDEX);
        Check.same("its line", Edge.lineOf(x, 0), "0p");
        x.step(0, 2, 4, 4, 4);
        Check.same("its only step", Edge.lineOf(x, 0), "0p b4/4x4");
        Check.same("nothing is paid for it", x.stepOf(0, 0, 4), 0);
        x.restoreSnapshot();
        x.tour(0);
        Check.same("a new tour behind a restored snapshot", Edge.lineOf(x, 0), "0p");
    }

    /** "Throws UnsupportedOperationException if it is refused, for the reason 1." */
    private static void promise2Refused() {
        for (int limit = 0; limit <= 4; limit++) {
            int l = limit;
            Edge.isRefused("a seventh tour", Edge::full, 1, 6, x -> x.tour(l));
        }
        Edge.leaves("a seventh tour with a limit below", Edge::full, Edge.ARGUMENT, x -> x.tour(-1));
        Edge.leaves("a seventh tour with a limit above", Edge::full, Edge.ARGUMENT, x -> x.tour(5));
        TheatreSaga x = Edge.made(Edge::full);
        x.start(5);
        x.pass(40);
        Check.refuses("those that are over count too", () -> x.tour(0), Edge.REFUSED);
    }

    // ---- Promise 3: step

    /** "Throws IndexOutOfBoundsException if there is no such tour, town or day." */
    private static void promise3NoSuchThing() {
        for (int far : FAR) {
            Edge.leaves("tour " + far, Edge::busy, Edge.INDEX, x -> x.step(far, 0, 0, 0, 1));
            Edge.leaves("town " + far, Edge::busy, Edge.INDEX, x -> x.step(0, 0, far, 0, 1));
            Edge.leaves("day " + far, Edge::busy, Edge.INDEX, x -> x.step(0, 0, 0, far, 1));
        }
        Edge.leaves("tour 5 of 5", Edge::busy, Edge.INDEX, x -> x.step(5, 0, 0, 0, 1));
        Edge.leaves("tour 6 of 6", Edge::full, Edge.INDEX, x -> x.step(6, 0, 0, 0, 1));
        Edge.leaves("town 5", Edge::busy, Edge.INDEX, x -> x.step(0, 0, 5, 0, 1));
        Edge.leaves("day 20", Edge::busy, Edge.INDEX, x -> x.step(0, 0, 0, 20, 1));
        TheatreSaga x = Edge.made(Edge::busy);
        Check.answers("the first town, the first day", () -> x.step(0, 1, 0, 0, 1), 3);
        Check.answers("the last town, the last day", () -> x.step(0, 1, 4, 19, 1), 4);
    }

    /** "Throws IllegalArgumentException if there is no such kind, or the number is out of range." */
    private static void promise3OutOfRange() {
        int[] most = {1, 4, 12};
        for (int kind = 0; kind < 3; kind++) {
            int k = kind;
            for (int many : new int[] {Edge.LEAST, -1, 0, most[kind] + 1, Edge.MOST}) {
                Edge.leaves(many + " of kind " + k, Edge::busy, Edge.ARGUMENT, x -> x.step(0, k, 2, 2, many));
            }
            for (int many = 1; many <= most[kind]; many++) {
                TheatreSaga x = Edge.made(Edge::busy);
                Check.same(many + " of kind " + k, x.step(0, k, 2, 2, many), 3);
                Check.same("how much it books", x.stepOf(0, 2, 3), many);
            }
        }
        for (int far : FAR) {
            Edge.leaves("kind " + far, Edge::busy, Edge.ARGUMENT, x -> x.step(0, far, 2, 2, 1));
        }
        Edge.leaves("kind 3", Edge::busy, Edge.ARGUMENT, x -> x.step(0, 3, 2, 2, 1));
    }

    /** "Gives a planned tour a step, behind its others. Returns how many steps it has then." */
    private static void promise3BehindItsOthers() {
        TheatreSaga x = new TheatreSaga();
        x.tour(0);
        x.tour(0);
        for (int step = 0; step < 8; step++) {
            Check.same("how many it has", x.step(0, 2, step % 5, 19 - step, step + 1), step + 1);
            for (int before = 0; before <= step; before++) {
                Check.same("the town", x.stepOf(0, before, 1), before % 5);
                Check.same("the day", x.stepOf(0, before, 2), 19 - before);
                Check.same("how much", x.stepOf(0, before, 3), before + 1);
            }
        }
        Check.same("none of the other", x.tourOf(1, 2), 0);
        Check.same("its coins stay", x.number(7), 100);
        Check.same("nothing is booked", x.tourOf(0, 3), 0);
    }

    /** "Throws UnsupportedOperationException if it is refused, for the reason 2, 5 or 1." */
    private static void promise3Refused() {
        Edge.isRefused("a ninth step", Edge::full, 1, 8, x -> x.step(5, 2, 2, 2, 12));
        Edge.isRefused("a ninth step that it has", Edge::full, 5, 7, x -> x.step(5, 0, 4, 19, 1));
        Consumer<TheatreSaga> started = x -> {
            Edge.full(x);
            x.start(5);
        };
        Edge.isRefused("a ninth step that it has, of one that runs", started, 2, 1, x -> x.step(5, 0, 4, 19, 1));
        Edge.isRefused("a ninth step of one that runs", started, 2, 1, x -> x.step(5, 2, 2, 2, 12));
        Edge.isRefused("a step that it has, of one that is done", Edge::busy, 2, 3, x -> x.step(3, 0, 1, 5, 1));
    }

    /** "The tour has this step already, of the same kind, town and day." */
    private static void promise3SameStep() {
        Edge.isRefused("the first", Edge::busy, 5, 0, x -> x.step(0, 2, 0, 0, 5));
        Edge.isRefused("the first, with another number", Edge::busy, 5, 0, x -> x.step(0, 2, 0, 0, 4));
        Edge.isRefused("the last", Edge::busy, 5, 1, x -> x.step(0, 0, 0, 1, 1));
        TheatreSaga x = Edge.made(Edge::busy);
        Check.answers("of another kind", () -> x.step(0, 1, 0, 0, 1), 3);
        Check.answers("in another town", () -> x.step(0, 2, 1, 0, 5), 4);
        Check.answers("on another day", () -> x.step(0, 2, 0, 1, 5), 5);
        x.tour(0);
        Check.answers("of another tour", () -> x.step(5, 2, 0, 0, 5), 1);
        x.undo();
        Check.answers("that was undone", () -> x.step(5, 2, 0, 0, 5), 1);
    }

    // ---- Promise 4: start

    private static void promise4() {
        for (int far : FAR) {
            Edge.leaves("start " + far, Edge::busy, Edge.INDEX, x -> x.start(far));
        }
        Edge.leaves("start 5 of 5", Edge::busy, Edge.INDEX, x -> x.start(5));
        Edge.leaves("start 6 of 6", Edge::full, Edge.INDEX, x -> x.start(6));
        for (int how = 1; how <= 4; how++) {
            int tour = how;
            Edge.isRefused("of a tour that is " + how, Edge::busy, 2, how, x -> x.start(tour));
        }
        for (int tour = 0; tour < 6; tour++) {
            int last = tour;
            Consumer<TheatreSaga> past = x -> {
                for (int i = 0; i <= last; i++) {
                    x.tour(0);
                }
            };
            Edge.isRefused("without a step", past, 3, tour, x -> x.start(last));
        }
        TheatreSaga x = new TheatreSaga();
        x.tour(0);
        x.step(0, 2, 0, 0, 1);
        Check.answers("with one step", () -> x.start(0), 1);
        Check.same("it runs", x.tourOf(0, 0), 1);
        Check.same("nothing is booked before an hour goes by", x.tourOf(0, 3), 0);
    }

    /** "Returns how many tours run then." */
    private static void promise4HowManyRun() {
        TheatreSaga x = new TheatreSaga();
        for (int tour = 0; tour < 6; tour++) {
            Edge.plan(x, 0, Edge.beds(0, tour, 1), Edge.beds(1, tour, 1));
        }
        for (int tour = 0; tour < 6; tour++) {
            Check.same("they run", x.start(tour), tour + 1);
        }
        TheatreSaga y = Edge.made(Edge::busy);
        Check.same("one that goes back, one that is done and one that is undone do not run", y.start(0), 2);
    }

    // ---- Promise 5: back

    private static void promise5() {
        for (int far : FAR) {
            Edge.leaves("back " + far, Edge::busy, Edge.INDEX, x -> x.back(far));
        }
        Edge.leaves("back 5 of 5", Edge::busy, Edge.INDEX, x -> x.back(5));
        Edge.leaves("back 6 of 6", Edge::full, Edge.INDEX, x -> x.back(6));
        for (int how : new int[] {0, 2, 3, 4}) {
            Edge.isRefused("of a tour that is " + how, Edge::busy, 2, how, x -> x.back(how));
        }
        TheatreSaga x = Edge.made(Edge::busy);
        Check.answers("of a tour that runs", () -> x.back(1), 1);
        Check.same("it goes back", x.tourOf(1, 0), 2);
        Check.same("it is counted anew", x.tourOf(1, 4), 0);
        Check.same("it was called back", x.tourOf(1, 5), 4);
        Check.refuses("again", () -> x.back(1), Edge.REFUSED);
    }

    /** "Returns how many steps of it are booked." */
    private static void promise5HowManyAreBooked() {
        for (int booked = 0; booked < 8; booked++) {
            TheatreSaga x = new TheatreSaga();
            x.tour(0);
            for (int step = 0; step < 8; step++) {
                x.step(0, 2, 0, step, 1);
            }
            x.start(0);
            if (booked > 0) {
                x.pass(booked);
            }
            Check.same("how many are booked", x.back(0), booked);
            Check.same("it goes back then, or is undone", x.tourOf(0, 0), booked == 0 ? 4 : 2);
            Check.same("they still are", x.tourOf(0, 3), booked);
            Check.same("it is over when they all are undone", x.endsIn(0), booked);
        }
    }

    // ---- Promise 6: tourOf

    private static void promise6() {
        for (int far : FAR) {
            Edge.leaves("tour " + far, Edge::busy, Edge.INDEX, x -> x.tourOf(far, 0));
            Edge.leaves("what " + far, Edge::busy, Edge.ARGUMENT, x -> x.tourOf(0, far));
        }
        Edge.leaves("tour 5 of 5", Edge::busy, Edge.INDEX, x -> x.tourOf(5, 0));
        Edge.leaves("tour 6 of 6", Edge::full, Edge.INDEX, x -> x.tourOf(6, 8));
        Edge.leaves("what 9", Edge::busy, Edge.ARGUMENT, x -> x.tourOf(4, 9));
    }

    /** "0 how it is" up to "8 those that it brought", of tours that are in each way. */
    private static void promise6Numbers() {
        int[][] due = {
            {0, 1, 2, 0, 0, 0, 0, 0, 0},
            {1, 4, 2, 1, 2, 1, 12, 0, 0},
            {2, 2, 3, 2, 1, 1, 26, 0, 0},
            {3, 0, 1, 1, 0, 0, 12, 0, 10},
            {4, 3, 1, 0, 0, 4, 0, 0, 0},
            {0, 4, 8, 0, 0, 0, 0, 0, 0}};
        TheatreSaga x = Edge.made(Edge::full);
        for (int tour = 0; tour < 6; tour++) {
            for (int what = 0; what <= 8; what++) {
                Check.same("tour " + tour + ", what " + what, x.tourOf(tour, what), due[tour][what]);
            }
        }
        x.shut(3, false);
        x.pass(1);
        Check.same("came back so far", x.tourOf(2, 7), 6);
        x.pass(1);
        Check.same("all that came back", x.tourOf(2, 7), 13);
        Check.same("paid so far, what came back included", x.tourOf(2, 6), 26);
        Check.same("undone", x.tourOf(2, 0), 4);
    }

    // ---- Promise 7: stepOf

    private static void promise7() {
        for (int far : FAR) {
            Edge.leaves("tour " + far, Edge::busy, Edge.INDEX, x -> x.stepOf(far, 0, 0));
            Edge.leaves("step " + far, Edge::busy, Edge.INDEX, x -> x.stepOf(0, far, 0));
            Edge.leaves("what " + far, Edge::busy, Edge.ARGUMENT, x -> x.stepOf(0, 0, far));
        }
        Edge.leaves("tour 5 of 5", Edge::busy, Edge.INDEX, x -> x.stepOf(5, 0, 0));
        Edge.leaves("step 2 of 2", Edge::busy, Edge.INDEX, x -> x.stepOf(0, 2, 0));
        Edge.leaves("step 8 of 8", Edge::full, Edge.INDEX, x -> x.stepOf(5, 8, 0));
        Edge.leaves("step 8, which would be the next tour's", Edge::full, Edge.INDEX, x -> x.stepOf(0, 8, 0));
        Edge.leaves("step 0 of none", x -> x.tour(0), Edge.INDEX, x -> x.stepOf(0, 0, 0));
        Edge.leaves("what 5", Edge::busy, Edge.ARGUMENT, x -> x.stepOf(0, 1, 5));
    }

    /** "0 its kind; 1 its town; 2 its day; 3 how much it books; 4 the coins paid for it, 0 if it is not booked." */
    private static void promise7Numbers() {
        int[][] due = {{2, 2, 3, 7, 14}, {0, 3, 3, 1, 12}, {0, 2, 4, 1, 0}};
        TheatreSaga x = Edge.made(Edge::busy);
        for (int step = 0; step < 3; step++) {
            for (int what = 0; what <= 4; what++) {
                Check.same("step " + step + ", what " + what, x.stepOf(2, step, what), due[step][what]);
            }
        }
        x.shut(3, false);
        x.pass(1);
        Check.same("not booked any more", x.stepOf(2, 1, 4), 0);
        Check.same("the one before is", x.stepOf(2, 0, 4), 14);
        TheatreSaga y = Edge.made(Edge::full);
        int[] last = {0, 4, 19, 1, 0};
        for (int what = 0; what <= 4; what++) {
            Check.same("the last step of the last tour, what " + what, y.stepOf(5, 7, what), last[what]);
        }
    }

    // ---- Promise 8: shut

    private static void promise8() {
        for (int far : FAR) {
            Edge.leaves("shut " + far, Edge::busy, Edge.INDEX, x -> x.shut(far, true));
            Edge.leaves("open " + far, Edge::busy, Edge.INDEX, x -> x.shut(far, false));
        }
        Edge.leaves("shut 5", Edge::busy, Edge.INDEX, x -> x.shut(5, true));
        Edge.leaves("open 5", Edge::busy, Edge.INDEX, x -> x.shut(5, false));
        Edge.isRefused("shut what is shut", Edge::busy, 4, 0, x -> x.shut(4, true));
        Edge.isRefused("open what is open", Edge::busy, 4, 1, x -> x.shut(0, false));
        Edge.isRefused("open what is open at first", Edge::nothing, 4, 1, x -> x.shut(4, false));
        TheatreSaga x = new TheatreSaga();
        for (int town = 0; town < 5; town++) {
            Check.same("how many are open then", x.shut(town, true), 4 - town);
        }
        Check.same("none is open", x.number(14), 0);
        for (int town = 0; town < 5; town++) {
            Check.same("how many are open then", x.shut(town, false), town + 1);
        }
        Check.same("all are open", x.number(14), 5);
    }

    // ---- Promise 9: dear

    private static void promise9() {
        for (int far : FAR) {
            Edge.leaves("town " + far, Edge::busy, Edge.INDEX, x -> x.dear(far, 1));
            Edge.leaves("dearness " + far, Edge::busy, Edge.ARGUMENT, x -> x.dear(0, far));
        }
        Edge.leaves("town 5", Edge::busy, Edge.INDEX, x -> x.dear(5, 1));
        Edge.leaves("dearness 0", Edge::busy, Edge.ARGUMENT, x -> x.dear(0, 0));
        Edge.leaves("dearness 6", Edge::busy, Edge.ARGUMENT, x -> x.dear(4, 6));
        TheatreSaga x = new TheatreSaga();
        int before = 2;
        for (int dearness = 1; dearness <= 5; dearness++) {
            Check.same("the dearness before", x.dear(4, dearness), before);
            Check.same("as told", x.townOf(4, 1), dearness);
            before = dearness;
        }
        Check.same("as before", x.dear(4, 5), 5);
        Check.same("the others", x.townOf(0, 1) + x.townOf(3, 1), 4);
        TheatreSaga y = Edge.made(Edge::busy);
        Check.same("a town that is shut", y.dear(4, 1), 2);
        Check.same("it stays shut", y.townOf(4, 0), 0);
    }

    // ---- Promise 10: townOf

    private static void promise10() {
        for (int far : FAR) {
            Edge.leaves("town " + far, Edge::busy, Edge.INDEX, x -> x.townOf(far, 0));
            Edge.leaves("what " + far, Edge::busy, Edge.ARGUMENT, x -> x.townOf(0, far));
        }
        Edge.leaves("town 5", Edge::busy, Edge.INDEX, x -> x.townOf(5, 0));
        Edge.leaves("what 4", Edge::busy, Edge.ARGUMENT, x -> x.townOf(4, 4));
    }

    /** "0 for 1 if it is open; 1 its dearness; 2 the steps that are booked there; 3 the coins paid there so far." */
    private static void promise10Numbers() {
        int[][] due = {{1, 3, 0, 0}, {1, 5, 2, 24}, {1, 2, 1, 14}, {0, 2, 1, 12}, {0, 2, 0, 0}};
        TheatreSaga x = Edge.made(Edge::busy);
        for (int town = 0; town < 5; town++) {
            for (int what = 0; what <= 3; what++) {
                Check.same("town " + town + ", what " + what, x.townOf(town, what), due[town][what]);
            }
        }
        x.shut(3, false);
        x.pass(1);
        Check.same("not booked there any more", x.townOf(3, 2), 0);
        Check.same("paid there so far, what came back included", x.townOf(3, 3), 12);
    }

    // ---- Promise 11: pass

    /** "How many, from 1 to 40." */
    private static void promise11() {
        for (int hours : new int[] {Edge.LEAST, -40, -1, 0, 41, Edge.MOST}) {
            Edge.leaves("pass " + hours, Edge::busy, Edge.ARGUMENT, x -> x.pass(hours));
        }
        for (int hours = 1; hours <= 40; hours++) {
            TheatreSaga x = Edge.made(Edge::busy);
            x.pass(hours);
            Check.same("the hour", x.number(0), 3 + hours);
        }
        Check.same("40 hours are as 40 times an hour", State.now(x -> {
            Edge.full(x);
            x.start(5);
            x.pass(40);
        }), State.now(x -> {
            Edge.full(x);
            x.start(5);
            for (int hour = 0; hour < 40; hour++) {
                x.pass(1);
            }
        }));
    }

    /** "Returns how many tours are done or undone in them." */
    private static void promise11HowManyAreOver() {
        TheatreSaga x = Edge.made(Edge::busy);
        Check.same("none", x.pass(2), 0);
        Check.same("tour 1 fails for the last time, and goes back", x.pass(1), 0);
        Check.same("tour 1 is undone, tour 2 waits", x.pass(1), 1);
        x.shut(3, false);
        Check.same("tour 2 is undone", x.pass(40), 1);
        Check.same("those that were over before do not count", x.pass(40), 0);
        TheatreSaga y = new TheatreSaga();
        for (int tour = 0; tour < 6; tour++) {
            Edge.run(y, 0, Edge.hall(0, tour / 2));
        }
        Check.same("all six, done and undone", y.pass(1), 6);
        Check.same("three are done", y.number(5), 3);
        Check.same("three are undone", y.number(6), 3);
        TheatreSaga z = new TheatreSaga();
        Edge.run(z, 0, Edge.hall(0, 0), Edge.hall(0, 1));
        Edge.run(z, 0, Edge.hall(1, 0));
        z.back(1);
        Check.same("one that was undone when it was called back does not count", z.pass(40), 1);
    }
}
