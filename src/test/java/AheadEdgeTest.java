import java.util.function.Consumer;

/** The promises 12 to 24, sentence by sentence: what is left, what comes ahead, lines and accounts. */
public final class AheadEdgeTest {
    private static final int[] FAR = {Edge.LEAST, -1, Edge.MOST};

    private AheadEdgeTest() {
    }

    public static void main(String[] args) {
        promises12And13();
        promises12And13HowMuch();
        promise13TheSame();
        promise14();
        promise14Now();
        promise15();
        promise15OneHourMore();
        promise15TheLongest();
        promise15OthersGoOn();
        promise16();
        promise16Now();
        promise17();
        promise17None();
        promise17LeastDear();
        promise18();
        promise18Order();
        promise19();
        promise19Kinds();
        promise19Longest();
        promise19BehindTheLastBooked();
        promise20();
        promise21();
        promise21Edges();
        promise22();
        promise23();
        promise24();
        asManyStepsAsCanBe();
        questionsChangeNothing();
        Check.end("AheadEdgeTest");
    }

    // ---- Promises 12 and 13: left, leftAgain

    private static void promises12And13() {
        int[][] wrong = {{3, 0, 0}, {0, 5, 0}, {0, 0, 20}, {2, 4, 20}, {2, 5, 19}, {3, 4, 19}};
        for (int[] place : wrong) {
            leftOfNothing(place[0], place[1], place[2]);
        }
        for (int far : FAR) {
            leftOfNothing(far, 0, 0);
            leftOfNothing(0, far, 0);
            leftOfNothing(0, 0, far);
        }
    }

    private static void leftOfNothing(int kind, int town, int day) {
        String what = kind + " " + town + " " + day;
        Edge.leaves("left " + what, Edge::busy, Edge.INDEX, x -> x.left(kind, town, day));
        Edge.leaves("leftAgain " + what, Edge::busy, Edge.INDEX, x -> x.leftAgain(kind, town, day));
    }

    /** "Returns how much is left of a kind in a town on a day", from all of it to none. */
    private static void promises12And13HowMuch() {
        int[] all = {1, 4, 12};
        for (int kind = 0; kind < 3; kind++) {
            TheatreSaga x = new TheatreSaga();
            Edge.makeAllDear(x, 1);
            int many = Math.max(1, all[kind] / 4);
            int tours = all[kind] / many;
            for (int tour = 0; tour < tours; tour++) {
                Edge.run(x, 4, new int[] {kind, 2, 9, many}, Edge.beds(4, 0, 1));
            }
            x.shut(4, true);
            bothLeft(x, kind, all[kind]);
            x.pass(1);
            bothLeft(x, kind, 0);
            for (int tour = 0; tour < tours; tour++) {
                x.back(tour);
                x.pass(1);
                bothLeft(x, kind, many * (tour + 1));
            }
        }
    }

    private static void bothLeft(TheatreSaga x, int kind, int due) {
        Check.same("left of kind " + kind, x.left(kind, 2, 9), due);
        Check.same("left again of kind " + kind, x.leftAgain(kind, 2, 9), due);
        Check.same("the other ways of the place", x.left(kind, 2, 8) + x.left(kind, 2, 10) + x.left(kind, 1, 9)
            + x.left(kind, 3, 9), 4 * new int[] {1, 4, 12}[kind]);
    }

    /** "Returns the same by a second way", in all places. */
    private static void promise13TheSame() {
        theSame("busy", Edge::busy);
        theSame("full", Edge::full);
        for (int booked = 1; booked <= 8; booked++) {
            int hours = booked;
            theSame(booked + " are booked", x -> {
                x.tour(0);
                for (int step = 0; step < 8; step++) {
                    x.step(0, step % 3, 0, 19 - step, 1);
                }
                x.start(0);
                x.pass(hours);
            });
        }
        for (int hours = 1; hours <= 40; hours += 3) {
            int gone = hours;
            theSame("the longest behind " + gone + " hours", x -> {
                theLongest(x);
                x.pass(gone);
            });
        }
    }

    private static void theSame(String what, Consumer<TheatreSaga> past) {
        for (int kind = 0; kind < 3; kind++) {
            TheatreSaga x = Edge.made(past);
            for (int i = 0; i < 100; i++) {
                Check.same(what, x.leftAgain(kind, i / 20, i % 20), x.left(kind, i / 20, i % 20));
            }
        }
    }

    // ---- Promise 14: faultOf

    private static void promise14() {
        for (int far : FAR) {
            Edge.leaves("tour " + far, Edge::busy, Edge.INDEX, x -> x.faultOf(far));
        }
        Edge.leaves("tour 5 of 5", Edge::busy, Edge.INDEX, x -> x.faultOf(5));
        Edge.leaves("tour 6 of 6", Edge::full, Edge.INDEX, x -> x.faultOf(6));
        for (int how : new int[] {0, 3, 4}) {
            Edge.leaves("a tour that is " + how, Edge::busy, Edge.NONE, x -> x.faultOf(how));
        }
        Edge.leaves("a tour without steps", x -> x.tour(0), Edge.NONE, x -> x.faultOf(0));
        TheatreSaga x = Edge.made(Edge::busy);
        Check.answers("a tour that runs", () -> x.faultOf(1), 1);
        Check.answers("a tour that goes back", () -> x.faultOf(2), 1);
    }

    /** "The fault for which the next try would fail if it was made now; 0 if it would not." */
    private static void promise14Now() {
        TheatreSaga x = Edge.made(Edge::busy);
        x.shut(4, false);
        Check.same("now it is open", x.faultOf(1), 0);
        x.shut(3, false);
        Check.same("now it is open, backward", x.faultOf(2), 0);
        x.shut(2, true);
        Check.same("the town of a step that is neither next nor last", x.faultOf(2), 0);
        TheatreSaga y = new TheatreSaga();
        Edge.run(y, 0, Edge.beds(0, 0, 12), Edge.beds(0, 1, 12));
        y.pass(1);
        y.dear(0, 5);
        Check.same("60 of 76 coins", y.faultOf(0), 0);
        Edge.run(y, 0, Edge.beds(1, 1, 9));
        Check.same("18 of 76 coins, though another tour is first", y.faultOf(1), 0);
        y.pass(1);
        Check.same("18 of the 16 coins that the other left", y.tourOf(1, 5), 3);
    }

    // ---- Promise 15: endsIn

    private static void promise15() {
        for (int far : FAR) {
            Edge.leaves("tour " + far, Edge::busy, Edge.INDEX, x -> x.endsIn(far));
        }
        Edge.leaves("tour 5 of 5", Edge::busy, Edge.INDEX, x -> x.endsIn(5));
        Edge.leaves("tour 6 of 6", Edge::full, Edge.INDEX, x -> x.endsIn(6));
        Edge.leaves("planned", Edge::busy, Edge.NONE, x -> x.endsIn(0));
        Edge.leaves("planned, without steps", x -> x.tour(0), Edge.NONE, x -> x.endsIn(0));
        Edge.leaves("it goes back into a town that is shut", Edge::busy, Edge.NONE, x -> x.endsIn(2));
        TheatreSaga x = Edge.made(Edge::busy);
        Check.answers("done", () -> x.endsIn(3), 0);
        Check.answers("undone", () -> x.endsIn(4), 0);
        x.shut(1, true);
        Check.refuses("it runs, and would go back into a town that is shut", () -> x.endsIn(1), Edge.NONE);
    }

    /** "Returns in how many hours a tour is done or undone": that many hours and not one less. */
    private static void promise15OneHourMore() {
        for (int steps = 1; steps <= 8; steps++) {
            for (int limit = 0; limit <= 4; limit++) {
                TheatreSaga x = new TheatreSaga();
                x.tour(limit);
                for (int step = 0; step < steps; step++) {
                    x.step(0, 2, step == steps - 1 ? 1 : 0, step, 1);
                }
                x.start(0);
                Check.same("done", x.endsIn(0), steps);
                x.shut(1, true);
                int due = 2 * (steps - 1) + limit + 1;
                for (int hour = 0; hour < due; hour++) {
                    Check.same("steps " + steps + ", limit " + limit, x.endsIn(0), due - hour);
                    Check.yes("not yet", x.tourOf(0, 0) == 1 || x.tourOf(0, 0) == 2);
                    x.pass(1);
                }
                Check.same("undone", x.tourOf(0, 0), 4);
                Check.same("0 then", x.endsIn(0), 0);
            }
        }
    }

    /**
     * "Within 60 hours": 47 is the longest that a tour can need, so that 60 and 61 cannot be told apart from it.
     * Each of seven steps fails as often as the limit, as others give back what it needs just in time; the eighth
     * fails once more, and seven are undone.
     */
    private static void theLongest(TheatreSaga x) {
        Edge.makeAllDear(x, 1);
        Edge.run(x, 3, freeIn(10), freeIn(9), Edge.beds(1, 0, 1), Edge.beds(1, 1, 1), freeIn(6), freeIn(5),
            freeIn(4), Edge.hall(4, 0));
        x.shut(4, true);
        x.pass(7);
        Edge.run(x, 4, freeIn(20), freeIn(19), Edge.beds(1, 3, 1), Edge.beds(1, 4, 1), wait(6), freeIn(15),
            freeIn(14), Edge.hall(4, 1));
        Edge.run(x, 4, freeIn(29), wait(5), wait(9), wait(14), Edge.beds(1, 5, 1), freeIn(24), Edge.beds(1, 6, 1),
            Edge.hall(4, 2));
        Edge.run(x, 4, freeIn(34), wait(5), wait(10), wait(15), wait(20), Edge.beds(1, 7, 1), Edge.beds(1, 8, 1),
            Edge.hall(4, 3));
        Edge.run(x, 4, wait(4), wait(9), wait(14), wait(19), wait(24), wait(29), wait(34), Edge.hall(4, 4));
    }

    /** All wagons of a day, which are to be given back in the hour of this number. */
    private static int[] freeIn(int hour) {
        return Edge.wagons(hour / 20, hour % 20, 4);
    }

    /** One of the wagons that are given back in the hour of this number. */
    private static int[] wait(int hour) {
        return Edge.wagons(hour / 20, hour % 20, 1);
    }

    private static void promise15TheLongest() {
        for (int hour = 0; hour <= 47; hour++) {
            int gone = hour;
            TheatreSaga x = Edge.made(AheadEdgeTest::theLongest);
            for (int i = 0; i < gone; i++) {
                x.pass(1);
            }
            Check.answers("the longest, behind " + gone + " hours", () -> x.endsIn(4), 47 - gone);
        }
        TheatreSaga x = Edge.made(AheadEdgeTest::theLongest);
        Check.same("the other four are over before", x.pass(40), 4);
        Check.same("seven are booked", x.tourOf(4, 3) + x.endsIn(4), 14);
        Check.same("not yet", x.pass(6), 0);
        Check.same("in the 47th hour", x.pass(1), 1);
        Check.same("it failed as often as it could", x.tourOf(4, 0) * 10 + x.tourOf(4, 5), 41);
        TheatreSaga y = Edge.made(AheadEdgeTest::theLongest);
        y.pass(12);
        y.shut(0, true);
        Check.refuses("it does not come: nothing is undone in a town that is shut", () -> y.endsIn(4), Edge.NONE);
        y.pass(40);
        y.pass(40);
        Check.refuses("nor behind 80 hours", () -> y.endsIn(4), Edge.NONE);
        y.shut(0, false);
        Check.same("two hours when it is open again", y.endsIn(4), 2);
    }

    /** "... if only hours go by": the other tours go on in them. */
    private static void promise15OthersGoOn() {
        TheatreSaga x = new TheatreSaga();
        Edge.run(x, 0, Edge.hall(0, 0), Edge.beds(1, 0, 12), Edge.beds(1, 1, 12), Edge.beds(1, 2, 12));
        Edge.run(x, 0, Edge.wagons(2, 0, 4), Edge.hall(2, 0));
        Check.same("it would be done if it was alone", x.endsIn(1), 2);
        x.dear(2, 5);
        Check.same("40, then 30: too few coins, and back", x.endsIn(1), 3);
        TheatreSaga y = new TheatreSaga();
        Edge.run(y, 4, Edge.hall(0, 0), Edge.hall(1, 0));
        y.pass(1);
        y.back(0);
        Edge.run(y, 4, Edge.hall(0, 0));
        Check.same("it finds in the first hour what tour 0 gives back in it", y.endsIn(1), 1);
    }

    // ---- Promise 16: costs

    private static void promise16() {
        for (int far : FAR) {
            Edge.leaves("tour " + far, Edge::busy, Edge.INDEX, x -> x.costs(far));
        }
        Edge.leaves("tour 5 of 5", Edge::busy, Edge.INDEX, x -> x.costs(5));
        Edge.leaves("tour 6 of 6", Edge::full, Edge.INDEX, x -> x.costs(6));
        int[] due = {33, 12, 12, 0, 18, 18 + 18 + 6 + 40 + 3 + 36 + 12 + 12};
        TheatreSaga x = Edge.made(Edge::full);
        for (int tour = 0; tour < 6; tour++) {
            Check.same("the steps that are not booked, of tour " + tour, x.costs(tour), due[tour]);
        }
        TheatreSaga y = new TheatreSaga();
        y.tour(0);
        Check.same("no step", y.costs(0), 0);
        for (int step = 0; step < 8; step++) {
            y.step(0, 2, 0, step, 1);
        }
        Edge.plan(y, 0, Edge.hall(0, 0));
        Check.same("all eight steps, and none of the next tour", y.costs(0), 16);
    }

    /** "... would cost now." */
    private static void promise16Now() {
        TheatreSaga x = new TheatreSaga();
        x.tour(0);
        for (int step = 0; step < 8; step++) {
            x.step(0, 2, 3, step, 12);
        }
        for (int dearness = 1; dearness <= 5; dearness++) {
            x.dear(3, dearness);
            Check.same("as dear as now, however few the coins are", x.costs(0), 96 * dearness);
        }
        x.dear(3, 1);
        x.start(0);
        for (int booked = 1; booked <= 7; booked++) {
            x.pass(1);
            Check.same("less the booked ones", x.costs(0), 96 - 12 * booked);
        }
        x.back(0);
        for (int booked = 6; booked >= 0; booked--) {
            x.pass(1);
            Check.same("the undone ones again", x.costs(0), 96 - 12 * booked);
        }
    }

    // ---- Promise 17: cheapest

    private static void promise17() {
        for (int far : FAR) {
            Edge.leaves("kind " + far, Edge::busy, Edge.INDEX, x -> x.cheapest(far, 0, 1));
            Edge.leaves("day " + far, Edge::busy, Edge.INDEX, x -> x.cheapest(0, far, 1));
            Edge.leaves("many " + far, Edge::busy, Edge.ARGUMENT, x -> x.cheapest(0, 0, far));
        }
        Edge.leaves("kind 3", Edge::busy, Edge.INDEX, x -> x.cheapest(3, 0, 1));
        Edge.leaves("day 20", Edge::busy, Edge.INDEX, x -> x.cheapest(2, 20, 1));
        for (int kind = 0; kind < 3; kind++) {
            int k = kind;
            Edge.leaves("0", Edge::busy, Edge.ARGUMENT, x -> x.cheapest(k, 0, 0));
            Edge.leaves("13", Edge::busy, Edge.ARGUMENT, x -> x.cheapest(k, 0, 13));
        }
        TheatreSaga x = new TheatreSaga();
        Check.answers("1", () -> x.cheapest(2, 0, 1), 0);
        Check.answers("12, on the last day", () -> x.cheapest(2, 19, 12), 0);
    }

    /** "Throws NoSuchElementException if there is none." */
    private static void promise17None() {
        Edge.leaves("two halls", Edge::busy, Edge.NONE, x -> x.cheapest(0, 0, 2));
        Edge.leaves("five wagons", Edge::busy, Edge.NONE, x -> x.cheapest(1, 0, 5));
        Edge.leaves("12 wagons", Edge::busy, Edge.NONE, x -> x.cheapest(1, 0, 12));
        TheatreSaga x = new TheatreSaga();
        Check.answers("one hall", () -> x.cheapest(0, 0, 1), 0);
        Check.answers("four wagons", () -> x.cheapest(1, 0, 4), 0);
        for (int town = 0; town < 4; town++) {
            x.shut(town, true);
            Check.same("the lowest that is open", x.cheapest(2, 7, 12), town + 1);
        }
        Consumer<TheatreSaga> allShut = y -> {
            for (int town = 0; town < 5; town++) {
                y.shut(town, true);
            }
        };
        Edge.leaves("no town is open", allShut, Edge.NONE, y -> y.cheapest(2, 7, 1));
        Consumer<TheatreSaga> allTaken = y -> {
            Edge.makeAllDear(y, 1);
            Edge.run(y, 0, Edge.hall(0, 7), Edge.hall(1, 7), Edge.hall(2, 7), Edge.hall(3, 7), Edge.hall(4, 7));
            y.pass(5);
        };
        Edge.leaves("no hall is left", allTaken, Edge.NONE, y -> y.cheapest(0, 7, 1));
        Check.same("on the next day", Edge.made(allTaken).cheapest(0, 8, 1), 0);
    }

    /** "The open town in which a number of a kind could be booked, the least dear one, of several the lowest." */
    private static void promise17LeastDear() {
        TheatreSaga x = new TheatreSaga();
        for (int town = 0; town < 5; town++) {
            x.dear(town, 5 - town);
        }
        Check.same("1 is the least dear", x.cheapest(2, 0, 12), 4);
        x.dear(2, 1);
        Check.same("the lowest of two", x.cheapest(2, 0, 12), 2);
        Edge.run(x, 0, Edge.beds(2, 0, 5));
        x.pass(1);
        Check.same("just as many as are left", x.cheapest(2, 0, 7), 2);
        Check.same("one more than is left", x.cheapest(2, 0, 8), 4);
        x.shut(4, true);
        Check.same("the least dear of the others that are open", x.cheapest(2, 0, 8), 3);
        x.shut(2, true);
        Check.same("a town that is shut is none, however much is left", x.cheapest(2, 0, 7), 3);
        Edge.makeAllDear(x, 5);
        Check.same("all are as dear as can be", x.cheapest(2, 0, 12), 0);
    }

    // ---- Promise 18: ranked

    private static void promise18() {
        for (int far : FAR) {
            Edge.leaves("place " + far, Edge::busy, Edge.NONE, x -> x.ranked(far));
        }
        Edge.leaves("place 5 of 5", Edge::busy, Edge.NONE, x -> x.ranked(5));
        Edge.leaves("place 6 of 6", Edge::full, Edge.NONE, x -> x.ranked(6));
        TheatreSaga x = new TheatreSaga();
        for (int tours = 1; tours <= 6; tours++) {
            x.tour(0);
            int behind = tours;
            Check.answers("the last place", () -> x.ranked(behind - 1), tours - 1);
            Check.refuses("behind the last place", () -> x.ranked(behind), Edge.NONE);
        }
    }

    /** "The most first, of several the one with the fewest steps, of these the lowest." */
    private static void promise18Order() {
        int[] due = {2, 3, 1, 4, 0, 5};
        TheatreSaga x = Edge.made(Edge::full);
        for (int place = 0; place < 6; place++) {
            Check.same("place " + place, x.ranked(place), due[place]);
        }
        TheatreSaga y = new TheatreSaga();
        for (int tour = 0; tour < 6; tour++) {
            y.tour(0);
            for (int step = 0; step <= (5 - tour) / 2; step++) {
                y.step(tour, 2, tour % 5, step, 1);
            }
        }
        int[] fewestFirst = {4, 5, 2, 3, 0, 1};
        for (int place = 0; place < 6; place++) {
            Check.same("none is booked, place " + place, y.ranked(place), fewestFirst[place]);
        }
        for (int tour = 0; tour < 6; tour++) {
            y.start(tour);
        }
        y.pass(3);
        for (int place = 0; place < 6; place++) {
            Check.same("all are booked, place " + place, y.ranked(place), place);
        }
    }

    // ---- Promise 19: line

    private static void promise19() {
        for (int far : FAR) {
            Edge.leaves("line " + far, Edge::busy, Edge.INDEX, x -> x.line(far));
        }
        Edge.leaves("line 5 of 5", Edge::busy, Edge.INDEX, x -> x.line(5));
        Edge.leaves("line 6 of 6", Edge::full, Edge.INDEX, x -> x.line(6));
        String[] due = {"0p b0/0x5 h0/1", "1r w1/2x3| h4/2", "2b b2/3x7 h3/3| h2/4", "3d h1/5|", "4u h0/6",
            "5p h0/0 h0/1 w0/0x1 w1/0x4 b0/0x1 b0/1x12 b4/19x6 h4/19"};
        TheatreSaga x = Edge.made(Edge::full);
        for (int tour = 0; tour < 6; tour++) {
            Check.same("the line", Edge.lineOf(x, tour), due[tour]);
            Check.same("its length", x.line(tour), due[tour].length());
        }
        TheatreSaga y = new TheatreSaga();
        y.tour(0);
        Check.same("without steps", Edge.lineOf(y, 0), "0p");
    }

    /** "... h, w or b by its kind, the town, /, the day, and x and how much if it is no hall." */
    private static void promise19Kinds() {
        TheatreSaga x = new TheatreSaga();
        x.tour(0);
        x.step(0, 0, 4, 9, 1);
        x.step(0, 1, 0, 10, 1);
        x.step(0, 2, 3, 0, 1);
        x.step(0, 2, 2, 19, 9);
        x.step(0, 2, 1, 1, 10);
        Check.same("one and two digits", Edge.lineOf(x, 0), "0p h4/9 w0/10x1 b3/0x1 b2/19x9 b1/1x10");
    }

    private static void promise19Longest() {
        TheatreSaga x = new TheatreSaga();
        x.dear(0, 1);
        x.tour(0);
        for (int step = 0; step < 8; step++) {
            x.step(0, 2, 0, 10 + step, 12);
        }
        Check.same("eight steps of nine characters", x.line(0), 74);
        x.start(0);
        for (int booked = 1; booked <= 8; booked++) {
            x.pass(1);
            Check.same("and the bar", x.line(0), 75);
            Check.same("its place", x.character(1 + 9 * booked + 1), '|');
        }
        Check.refuses("behind its end", () -> x.character(75), Edge.INDEX);
        x.tour(0);
        Check.same("a line in place of it", x.line(1), 2);
        Check.refuses("nothing of the line before", () -> x.character(2), Edge.INDEX);
        Check.same("its end", x.character(1), 'p');
    }

    /** "With | behind the last step that is booked, if there is one." */
    private static void promise19BehindTheLastBooked() {
        TheatreSaga x = new TheatreSaga();
        Edge.run(x, 0, Edge.hall(0, 0), Edge.hall(0, 1), Edge.hall(0, 2));
        Check.same("none is booked", Edge.lineOf(x, 0), "0r h0/0 h0/1 h0/2");
        x.pass(1);
        Check.same("one", Edge.lineOf(x, 0), "0r h0/0| h0/1 h0/2");
        x.pass(1);
        Check.same("two", Edge.lineOf(x, 0), "0r h0/0 h0/1| h0/2");
        x.pass(1);
        Check.same("all", Edge.lineOf(x, 0), "0d h0/0 h0/1 h0/2|");
        x.undo();
        x.back(0);
        x.pass(1);
        Check.same("one again", Edge.lineOf(x, 0), "0b h0/0| h0/1 h0/2");
        x.pass(1);
        Check.same("none again", Edge.lineOf(x, 0), "0u h0/0 h0/1 h0/2");
    }

    // ---- Promise 20: character

    private static void promise20() {
        Edge.leaves("the line is empty at first", Edge::full, Edge.INDEX, x -> x.character(15));
        Edge.leaves("empty at first", x -> x.tour(0), Edge.INDEX, x -> x.character(0));
        for (int far : FAR) {
            Edge.leaves("character " + far, Edge::busy, Edge.INDEX, x -> x.character(far));
            Edge.leaves("character " + far + " of none", Edge::nothing, Edge.INDEX, x -> x.character(far));
        }
        TheatreSaga x = Edge.made(Edge::busy);
        Check.answers("the first", () -> x.character(0), '1');
        Check.answers("the last", () -> x.character(14), '2');
        Check.refuses("behind the last", () -> x.character(15), Edge.INDEX);
        Check.refuses("a line that cannot be", () -> x.line(5), Edge.INDEX);
        Check.answers("leaves the line before", () -> x.character(14), '2');
        x.pass(40);
        Check.answers("it is as it was written", () -> x.character(1), 'r');
    }

    // ---- Promise 21: number

    private static void promise21() {
        for (int far : FAR) {
            Edge.leaves("number " + far, Edge::busy, Edge.ARGUMENT, x -> x.number(far));
        }
        Edge.leaves("number 18", Edge::busy, Edge.ARGUMENT, x -> x.number(18));
        int[] due = {3, 5, 1, 1, 1, 1, 1, 60, 50, 0, 10, 0, 7, 3, 3, 4, 8, 2};
        TheatreSaga x = Edge.made(Edge::busy);
        for (int what = 0; what <= 17; what++) {
            Check.same("number " + what, x.number(what), due[what]);
        }
        x.shut(3, false);
        x.pass(1);
        Check.same("came back", x.number(9), 6);
        Check.same("the coins", x.number(7), 66);
    }

    /** The least and the most of what number() tells. */
    private static void promise21Edges() {
        TheatreSaga x = new TheatreSaga();
        for (int tours = 1; tours <= 6; tours++) {
            Edge.run(x, 0, Edge.beds(0, 0, 1), Edge.beds(0, 1, 1));
            Check.same("tours", x.number(1), tours);
            Check.same("run", x.number(3), tours);
        }
        for (int town = 1; town < 5; town++) {
            x.shut(town, true);
            Check.same("open", x.number(14), 5 - town);
        }
        x.pass(1);
        Check.same("booked", x.number(15), 6);
        for (int tour = 0; tour < 6; tour++) {
            x.back(tour);
            Check.same("go back", x.number(4), tour + 1);
        }
        x.shut(0, true);
        Check.same("none is open", x.number(14), 0);
        x.pass(2);
        Check.same("failed", x.number(13), 12);
        Check.same("tries", x.number(12), 18);
        x.shut(0, false);
        x.pass(1);
        Check.same("all are undone", x.number(6), 6);
        Check.same("none is booked", x.number(15), 0);
        Check.same("half of 2, six times", x.number(9), 6);
        Check.same("changes", x.number(16), 8);
        for (int i = 1; i <= 60; i++) {
            x.feed('y');
            Check.same("the input", x.number(17), i);
        }
    }

    // ---- Promises 22 to 24: coinsAgain, meanSteps, failedShare

    /** "The 100, those that came back and were brought, less those paid and lost." */
    private static void promise22() {
        Check.same("nothing happened", new TheatreSaga().coinsAgain(), 100);
        TheatreSaga x = Edge.made(Edge::busy);
        Check.same("paid and brought", x.coinsAgain(), 60);
        x.shut(3, false);
        x.pass(1);
        Check.same("came back", x.coinsAgain(), 66);
        x.undo();
        Check.same("undone", x.coinsAgain(), 60);
        x.restoreSnapshot();
        Check.same("restored", x.coinsAgain(), 60);
        TheatreSaga y = new TheatreSaga();
        Edge.makeAllDear(y, 5);
        Edge.run(y, 0, Edge.wagons(0, 0, 4), Edge.beds(0, 0, 12));
        y.pass(2);
        Check.same("all are paid", y.coinsAgain(), 0);
    }

    private static void promise23() {
        Edge.leaves("no tour", x -> x.pass(1), Edge.ARITHMETIC, x -> (long) x.meanSteps());
        TheatreSaga x = new TheatreSaga();
        x.tour(0);
        Check.yes("0 of 1", x.meanSteps() == 0.0);
        x.step(0, 0, 0, 0, 1);
        Check.yes("1 of 1", x.meanSteps() == 1.0);
        x.tour(0);
        Check.yes("1 of 2", x.meanSteps() == 0.5);
        x.tour(0);
        Check.yes("1 of 3, as doubles", x.meanSteps() == 1.0 / 3.0);
        x.undo();
        x.undo();
        x.undo();
        x.undo();
        Check.refuses("all are undone", () -> (long) x.meanSteps(), Edge.ARITHMETIC);
        for (int tour = 0; tour < 6; tour++) {
            x.tour(0);
            for (int step = 0; step < 8; step++) {
                x.step(tour, 2, 0, step, 1);
            }
        }
        Check.yes("48 of 6", x.meanSteps() == 8.0);
        Check.yes("all tours, however they are", Edge.made(Edge::full).meanSteps() == 17.0 / 6.0);
    }

    private static void promise24() {
        Consumer<TheatreSaga> noTries = x -> {
            Edge.run(x, 0, Edge.hall(0, 0));
            x.shut(0, true);
        };
        Edge.leaves("no tries", noTries, Edge.ARITHMETIC, x -> (long) x.failedShare());
        Edge.leaves("no tries in hours without a tour", x -> x.pass(40), Edge.ARITHMETIC, x -> (long) x.failedShare());
        TheatreSaga x = Edge.made(noTries);
        x.pass(1);
        Check.yes("all failed", x.failedShare() == 1f);
        x.undo();
        Check.refuses("it is undone", () -> (long) x.failedShare(), Edge.ARITHMETIC);
        x.shut(0, false);
        x.pass(1);
        Check.yes("none failed", x.failedShare() == 0f);
        TheatreSaga y = Edge.made(Edge::busy);
        Check.yes("3 of 7, as floats", y.failedShare() == 3f / 7f);
    }

    /** Six tours of eight steps each: nothing of the last step runs over into what comes behind it. */
    private static void asManyStepsAsCanBe() {
        TheatreSaga x = new TheatreSaga();
        for (int tour = 0; tour < 6; tour++) {
            x.tour(4);
            for (int step = 0; step < 8; step++) {
                x.step(tour, 2, 1, 7 - step, 1);
            }
        }
        Check.same("all towns are open", x.number(14), 5);
        Check.same("one is shut", x.shut(4, true), 4);
        Check.same("none is booked", x.number(15), 0);
        for (int kind = 0; kind < 3; kind++) {
            Check.same("the lowest town", x.cheapest(kind, 0, 1), 0);
        }
        for (int tour = 0; tour < 6; tour++) {
            Check.same("what it would cost", x.costs(tour), 16);
            x.start(tour);
        }
        Check.same("not yet", x.pass(7), 0);
        Check.same("all are done", x.pass(1), 6);
        Check.same("all are booked", x.number(15), 48);
        Check.same("all are booked there", x.townOf(1, 2), 48);
        Check.same("all are paid there", x.townOf(1, 3), 96);
        Check.same("four coins are left", x.number(7), 4);
        for (int town = 0; town < 5; town++) {
            Check.same("open", x.townOf(town, 0), town == 4 ? 0 : 1);
            Check.same("the dearness", x.townOf(town, 1), 2);
        }
        for (int day = 0; day < 8; day++) {
            Check.same("half of the beds are left", x.left(2, 1, day), 6);
        }
    }

    // ---- what only asks

    /** Calls that only ask leave all as it was; line() writes the line alone. */
    private static void questionsChangeNothing() {
        Consumer<TheatreSaga> asked = x -> {
            Edge.full(x);
            for (int tour = 0; tour < 6; tour++) {
                int t = tour;
                Check.answer(() -> x.endsIn(t));
                Check.answer(() -> x.faultOf(t));
                x.costs(tour);
                x.tourOf(tour, 0);
                x.stepOf(tour, 0, 0);
                x.ranked(tour);
            }
            x.cheapest(2, 0, 1);
            x.left(0, 0, 0);
            x.leftAgain(0, 0, 0);
            x.townOf(0, 0);
            x.number(0);
            x.coinsAgain();
            x.meanSteps();
            x.failedShare();
            x.character(0);
            x.faultPosition();
            x.refusal(true);
            x.refusal(false);
        };
        Check.same("the state", State.changeable(asked), State.changeable(Edge::full));
        Check.same("what is kept", State.kept(asked), State.kept(Edge::full));
        Consumer<TheatreSaga> written = x -> {
            Edge.full(x);
            x.line(5);
        };
        Check.same("the state when a line is written", State.changeable(written), State.changeable(Edge::full));
    }
}
