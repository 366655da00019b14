/** Each sentence of "Terms" that names an edge, but for "Text": the value just inside and the one just outside. */
public final class TermsEdgeTest {
    private TermsEdgeTest() {
    }

    public static void main(String[] args) {
        calls();
        towns();
        whatADayHas();
        openAndDear();
        toursAndSteps();
        amounts();
        conditions();
        prices();
        priceWhenBooked();
        coins();
        hours();
        toursByTheirNumbers();
        laterOneTooLate();
        firstStepThatIsNotBooked();
        faultsInTheirOrder();
        justEnoughLeft();
        justEnoughCoins();
        whenAllStepsAreBooked();
        hallsBring();
        limitAndOneTogether();
        countedForAStep();
        countedAnew();
        backwardFaults();
        halfRoundedDown();
        undoneAtOnce();
        causes();
        causesWhenOver();
        refusals();
        details();
        turnsBackAndTriesInTheNextHour();
        undo();
        whatIsAChange();
        forgotten();
        firstDocumented();
        neitherUndoneNorSaved();
        Check.end("TermsEdgeTest");
    }

    /** "An object is used for at most 512 calls after it has been made." */
    private static void calls() {
        TheatreSaga x = new TheatreSaga();
        for (int call = 1; call < 512; call++) {
            x.pass(40);
        }
        Check.same("the 512th call", x.number(0), 511 * 40);
    }

    // ---- towns

    /** "There are the towns 0 to 4." */
    private static void towns() {
        TheatreSaga x = new TheatreSaga();
        Check.answers("town 0", () -> x.townOf(0, 0), 1);
        Check.answers("town 4", () -> x.townOf(4, 0), 1);
        Check.refuses("town -1", () -> x.townOf(-1, 0), Edge.INDEX);
        Check.refuses("town 5", () -> x.townOf(5, 0), Edge.INDEX);
    }

    /** "On each day from 0 to 19 each has 1 hall, 4 wagons and 12 beds." */
    private static void whatADayHas() {
        TheatreSaga x = new TheatreSaga();
        for (int i = 0; i < 100; i++) {
            Check.same("a hall", x.left(0, i / 20, i % 20), 1);
            Check.same("wagons", x.left(1, i / 20, i % 20), 4);
            Check.same("beds", x.left(2, i / 20, i % 20), 12);
        }
        for (int kind = 0; kind < 3; kind++) {
            int k = kind;
            Check.refuses("day -1", () -> x.left(k, 0, -1), Edge.INDEX);
            Check.refuses("day 20", () -> x.left(k, 4, 20), Edge.INDEX);
        }
        TheatreSaga y = new TheatreSaga();
        Edge.makeAllDear(y, 1);
        Edge.run(y, 0, Edge.hall(4, 19), Edge.wagons(4, 19, 4), Edge.beds(4, 19, 12));
        Check.same("all that a town has on a day is booked", y.pass(3), 1);
        for (int kind = 0; kind < 3; kind++) {
            Check.same("nothing is left", y.left(kind, 4, 19), 0);
            Check.same("nothing is left, step by step", y.leftAgain(kind, 4, 19), 0);
            Check.same("the day before", y.left(kind, 4, 18), new int[] {1, 4, 12}[kind]);
            Check.same("the town before", y.left(kind, 3, 19), new int[] {1, 4, 12}[kind]);
        }
        Check.same("one more hall", y.faultOf(Edge.run(y, 0, Edge.hall(4, 19))), 2);
        Check.same("one more wagon", y.faultOf(Edge.run(y, 0, Edge.wagons(4, 19, 1))), 2);
        Check.same("one more bed", y.faultOf(Edge.run(y, 0, Edge.beds(4, 19, 1))), 2);
    }

    /** "A town is open, as at first, or shut; and it has a dearness from 1 to 5, 2 at first." */
    private static void openAndDear() {
        TheatreSaga x = new TheatreSaga();
        for (int town = 0; town < 5; town++) {
            int t = town;
            Check.same("open at first", x.townOf(t, 0), 1);
            Check.same("2 at first", x.townOf(t, 1), 2);
            Check.answers("dearness 1", () -> x.dear(t, 1), 2);
            Check.answers("dearness 5", () -> x.dear(t, 5), 1);
            Check.refuses("dearness 0", () -> x.dear(t, 0), Edge.ARGUMENT);
            Check.refuses("dearness 6", () -> x.dear(t, 6), Edge.ARGUMENT);
            Check.same("it stays", x.townOf(t, 1), 5);
            Check.answers("shut", () -> x.shut(t, true), 4 - t);
            Check.same("shut", x.townOf(t, 0), 0);
        }
    }

    // ---- tours

    /** "At most 6 tours, numbered from 0, each with a limit from 0 to 4, and with at most 8 steps, numbered from 0." */
    private static void toursAndSteps() {
        TheatreSaga x = new TheatreSaga();
        for (int tour = 0; tour < 6; tour++) {
            int limit = tour % 5;
            Check.answers("numbered from 0", () -> x.tour(limit), tour);
        }
        Check.refuses("a seventh tour", () -> x.tour(0), Edge.REFUSED);
        for (int step = 0; step < 8; step++) {
            int day = step;
            Check.answers("a step", () -> x.step(5, 2, 0, day, day + 1), step + 1);
            Check.answers("numbered from 0", () -> x.stepOf(5, day, 3), step + 1);
        }
        Check.refuses("a ninth step", () -> x.step(5, 2, 0, 8, 1), Edge.REFUSED);
        Check.answers("each with 8", () -> x.step(4, 2, 0, 8, 1), 1);
        TheatreSaga y = new TheatreSaga();
        Check.refuses("limit -1", () -> y.tour(-1), Edge.ARGUMENT);
        Check.refuses("limit 5", () -> y.tour(5), Edge.ARGUMENT);
        Check.answers("limit 0", () -> y.tour(0), 0);
        Check.answers("limit 4", () -> y.tour(4), 1);
        Check.same("limits", y.tourOf(0, 1) * 10 + y.tourOf(1, 1), 4);
    }

    /** "Of the kind 0, the hall; of the kind 1, 1 to 4 wagons; of the kind 2, 1 to 12 beds." */
    private static void amounts() {
        TheatreSaga x = new TheatreSaga();
        x.tour(0);
        int[] most = {1, 4, 12};
        int steps = 0;
        for (int kind = 0; kind < 3; kind++) {
            int k = kind;
            Check.refuses("0 of kind " + k, () -> x.step(0, k, 0, 0, 0), Edge.ARGUMENT);
            Check.answers("1 of kind " + k, () -> x.step(0, k, 0, 0, 1), ++steps);
            Check.refuses("above the most of kind " + k, () -> x.step(0, k, 0, 1, most[k] + 1), Edge.ARGUMENT);
            Check.answers("the most of kind " + k, () -> x.step(0, k, 0, 1, most[k]), ++steps);
        }
        Check.refuses("kind -1", () -> x.step(0, -1, 0, 2, 1), Edge.ARGUMENT);
        Check.refuses("kind 3", () -> x.step(0, 3, 0, 2, 1), Edge.ARGUMENT);
        for (int step = 0; step < 6; step++) {
            Check.same("its kind", x.stepOf(0, step, 0), step / 2);
            Check.same("how much", x.stepOf(0, step, 3), step % 2 == 0 ? 1 : most[step / 2]);
        }
    }

    /** "A tour is planned, 0, as at first; runs, 1; goes back, 2; is done, 3; or is undone, 4." */
    private static void conditions() {
        TheatreSaga x = Edge.made(Edge::busy);
        for (int tour = 0; tour < 5; tour++) {
            Check.same("how tour " + tour + " is", x.tourOf(tour, 0), tour);
            Check.same("one of each", x.number(2 + tour), 1);
        }
        x.tour(0);
        Check.same("planned at first", x.tourOf(5, 0), 0);
    }

    // ---- prices

    /** "A hall costs 6 coins, a wagon 2 and a bed 1, each times the dearness that the town has." */
    private static void prices() {
        int[] coins = {6, 2, 1};
        int[] most = {1, 4, 12};
        for (int kind = 0; kind < 3; kind++) {
            for (int dearness = 1; dearness <= 5; dearness++) {
                for (int many = 1; many <= most[kind]; many++) {
                    TheatreSaga x = new TheatreSaga();
                    x.dear(3, dearness);
                    Edge.run(x, 0, new int[] {kind, 3, 0, many}, Edge.hall(0, 0));
                    int due = coins[kind] * dearness * many;
                    Check.same("what it would cost", x.costs(0), due + 12);
                    x.pass(1);
                    Check.same("paid for the step", x.stepOf(0, 0, 4), due);
                    Check.same("paid for the tour", x.tourOf(0, 6), due);
                    Check.same("paid there", x.townOf(3, 3), due);
                    Check.same("paid so far", x.number(8), due);
                    Check.same("the coins", x.number(7), 100 - due);
                }
            }
        }
    }

    /** "... times the dearness that the town has when it is booked." */
    private static void priceWhenBooked() {
        TheatreSaga x = new TheatreSaga();
        x.dear(1, 5);
        Edge.run(x, 0, Edge.beds(1, 0, 7), Edge.beds(1, 1, 7));
        x.dear(1, 3);
        x.pass(1);
        x.dear(1, 1);
        Check.same("neither as when it was planned nor as now", x.stepOf(0, 0, 4), 21);
        x.pass(1);
        Check.same("the next one as now", x.stepOf(0, 1, 4), 7);
        x.dear(1, 5);
        Check.same("what was paid stays", x.tourOf(0, 6), 28);
        TheatreSaga y = new TheatreSaga();
        Edge.run(y, 0, Edge.beds(1, 0, 7), Edge.beds(1, 1, 7));
        y.pass(1);
        y.dear(1, 5);
        y.back(0);
        y.pass(1);
        Check.same("half of what was paid, however dear it is now", y.tourOf(0, 7), 7);
    }

    /**
     * "There are 100 coins at first, and never more than 9999; what would be above is lost." The most that six
     * tours of eight halls can bring is 192 more than they cost, so that no run of calls comes near to 9999.
     */
    private static void coins() {
        TheatreSaga x = new TheatreSaga();
        Check.same("100 at first", x.number(7), 100);
        Edge.makeAllDear(x, 1);
        for (int tour = 0; tour < 6; tour++) {
            x.tour(0);
            for (int step = 0; step < 8; step++) {
                x.step(tour, 0, step % 5, tour * 2 + step / 5, 1);
            }
            x.start(tour);
            Check.same("done", x.pass(8), 1);
        }
        Check.same("the most coins that can be", x.number(7), 292);
        Check.same("none are lost", x.number(11), 0);
        Check.same("brought", x.number(10), 480);
        Check.same("the coins again", x.coinsAgain(), 292);
    }

    // ---- hours and tries

    /** "Each tour that runs or goes back makes one try; then the next hour begins. Hours are numbered from 0." */
    private static void hours() {
        TheatreSaga x = new TheatreSaga();
        Check.same("from 0", x.number(0), 0);
        x.pass(1);
        Check.same("the next hour begins though there is no tour", x.number(0), 1);
        TheatreSaga y = Edge.made(Edge::busy);
        int tries = y.number(12);
        y.pass(1);
        Check.same("one that runs and one that goes back", y.number(12), tries + 2);
        TheatreSaga z = new TheatreSaga();
        Edge.plan(z, 0, Edge.hall(0, 0));
        z.pass(40);
        Check.same("a planned tour makes none", z.number(12), 0);
        z.start(0);
        z.pass(40);
        Check.same("a tour that is done makes none any more", z.number(12), 1);
        Check.same("80 hours", z.number(0), 80);
    }

    /** "... makes one try, by their numbers." */
    private static void toursByTheirNumbers() {
        TheatreSaga x = new TheatreSaga();
        for (int tour = 0; tour < 6; tour++) {
            Edge.plan(x, 0, Edge.wagons(0, 0, 1));
        }
        for (int tour = 5; tour >= 0; tour--) {
            x.start(tour);
        }
        Check.same("all are over", x.pass(1), 6);
        for (int tour = 0; tour < 6; tour++) {
            Check.same("the first four are done", x.tourOf(tour, 0), tour < 4 ? 3 : 4);
        }
        TheatreSaga y = new TheatreSaga();
        Edge.run(y, 1, Edge.hall(0, 0), Edge.hall(0, 2));
        Edge.run(y, 0, Edge.hall(0, 1), Edge.hall(0, 2));
        y.pass(1);
        Edge.run(y, 0, Edge.hall(0, 1));
        y.back(1);
        Check.same("what tour 1 undoes, tour 2 finds in the same hour", y.pass(1), 3);
    }

    /** What a later tour undoes comes too late for one before it in this hour. */
    private static void laterOneTooLate() {
        TheatreSaga x = new TheatreSaga();
        Edge.plan(x, 0, Edge.hall(0, 0));
        Edge.run(x, 0, Edge.hall(0, 0), Edge.hall(1, 0));
        x.pass(1);
        x.start(0);
        x.back(1);
        Check.same("both are undone", x.pass(1), 2);
        Check.same("tour 0 found nothing left", x.tourOf(0, 5), 2);
        Check.same("the hall is left then", x.left(0, 0, 0), 1);
    }

    /** "A try of a tour that runs is for its first step that is not booked." */
    private static void firstStepThatIsNotBooked() {
        TheatreSaga x = new TheatreSaga();
        Edge.run(x, 0, Edge.hall(4, 3), Edge.beds(0, 1, 2), Edge.wagons(2, 2, 1));
        for (int booked = 1; booked <= 3; booked++) {
            x.pass(1);
            Check.same("one more is booked", x.tourOf(0, 3), booked);
            for (int step = 0; step < 3; step++) {
                Check.yes("the first are booked", x.stepOf(0, step, 4) > 0 == step < booked);
            }
        }
    }

    /** A tour 1 with 7 beds for 35 coins, of which nothing is in its way but what is told. */
    private static TheatreSaga inTheWay(boolean isShut, boolean isTaken, boolean isPoor) {
        TheatreSaga x = new TheatreSaga();
        Edge.makeAllDear(x, 1);
        Edge.run(x, 0, isTaken ? Edge.beds(1, 0, 6) : Edge.beds(1, 1, 6));
        Edge.plan(x, 4, Edge.beds(1, 0, 7));
        x.pass(1);
        Edge.makeAllDear(x, 5);
        if (isPoor) {
            Edge.run(x, 0, Edge.beds(2, 0, 12));
            x.pass(1);
        }
        if (isShut) {
            x.shut(1, true);
        }
        x.start(1);
        return x;
    }

    /** "It fails for the first of these faults that applies: 1, shut; 2, less is left; 3, too few coins." */
    private static void faultsInTheirOrder() {
        for (int i = 0; i < 8; i++) {
            boolean isShut = (i & 1) != 0;
            boolean isTaken = (i & 2) != 0;
            boolean isPoor = (i & 4) != 0;
            TheatreSaga x = inTheWay(isShut, isTaken, isPoor);
            int due = isShut ? 1 : isTaken ? 2 : isPoor ? 3 : 0;
            String what = "shut " + isShut + ", taken " + isTaken + ", poor " + isPoor;
            Check.same(what + ": the coins", x.number(7), isPoor ? 34 : 94);
            Check.same(what + ": the fault ahead", x.faultOf(1), due);
            x.pass(1);
            Check.same(what + ": the cause", x.tourOf(1, 5), due);
            Check.same(what + ": booked", x.tourOf(1, 3), due == 0 ? 1 : 0);
            Check.same(what + ": counted", x.tourOf(1, 4), due == 0 ? 0 : 1);
            Check.same(what + ": failed tries", x.number(13), due == 0 ? 0 : 1);
        }
    }

    /** "2, there is less left there on this day than the step books." */
    private static void justEnoughLeft() {
        for (int taken = 1; taken < 12; taken++) {
            TheatreSaga x = new TheatreSaga();
            Edge.run(x, 0, Edge.beds(0, 0, taken));
            x.pass(1);
            Edge.run(x, 0, Edge.beds(0, 0, 12 - taken));
            Edge.run(x, 0, Edge.beds(0, 0, 13 - taken));
            Check.same("just as many beds as are left", x.faultOf(1), 0);
            Check.same("one bed less is left", x.faultOf(2), 2);
            x.pass(1);
            Check.same("done", x.tourOf(1, 0), 3);
            Check.same("undone", x.tourOf(2, 0), 4);
        }
        TheatreSaga y = new TheatreSaga();
        Edge.run(y, 0, Edge.wagons(0, 0, 3));
        y.pass(1);
        Edge.run(y, 0, Edge.wagons(0, 0, 1));
        Edge.run(y, 0, Edge.wagons(0, 0, 2));
        Check.same("just as many wagons as are left", y.faultOf(1), 0);
        Check.same("one wagon less is left", y.faultOf(2), 2);
        Check.same("there", y.faultOf(Edge.run(y, 0, Edge.wagons(1, 0, 4))), 0);
        Check.same("on this day", y.faultOf(Edge.run(y, 0, Edge.wagons(0, 1, 4))), 0);
        Check.same("of this kind", y.faultOf(Edge.run(y, 0, Edge.beds(0, 0, 12))), 0);
    }

    /** "3, there are too few coins." */
    private static void justEnoughCoins() {
        for (int more = 0; more < 2; more++) {
            TheatreSaga x = new TheatreSaga();
            x.dear(2, 5);
            x.dear(3, 1);
            Edge.run(x, 0, Edge.beds(2, 0, 12), Edge.wagons(2, 0, 3), Edge.beds(3, 0, more == 0 ? 1 : 2));
            x.pass(3);
            int coins = x.number(7);
            Check.same("coins", coins, more == 0 ? 9 : 8);
            Edge.run(x, 0, Edge.wagons(3, 0, 4));
            Check.same("as many coins as it costs, or one more", x.faultOf(1), 0);
            Edge.run(x, 0, Edge.beds(3, 1, coins + 1));
            Check.same("one coin less than it costs", x.faultOf(2), 3);
        }
        TheatreSaga y = new TheatreSaga();
        Edge.makeAllDear(y, 5);
        Edge.run(y, 0, Edge.wagons(0, 0, 4), Edge.beds(0, 0, 12));
        y.pass(2);
        Check.same("all coins are paid", y.number(7), 0);
        y.dear(0, 1);
        Check.same("without a coin", y.faultOf(Edge.run(y, 0, Edge.beds(0, 1, 1))), 3);
    }

    /** "When all steps are booked, the tour is done." */
    private static void whenAllStepsAreBooked() {
        for (int steps = 1; steps <= 8; steps++) {
            TheatreSaga x = new TheatreSaga();
            x.tour(0);
            for (int step = 0; step < steps; step++) {
                x.step(0, 2, 0, step, 1);
            }
            x.start(0);
            if (steps > 1) {
                Check.same("not before", x.pass(steps - 1), 0);
                Check.same("it runs", x.tourOf(0, 0), 1);
            }
            Check.same("in the hour of its last step", x.pass(1), 1);
            Check.same("it is done", x.tourOf(0, 0), 3);
            Check.same("all are booked", x.tourOf(0, 3), steps);
        }
    }

    /** "... and brings 10 coins for each hall that it booked." */
    private static void hallsBring() {
        for (int halls = 0; halls <= 8; halls++) {
            TheatreSaga x = new TheatreSaga();
            Edge.makeAllDear(x, 1);
            x.tour(0);
            for (int step = 0; step < 8; step++) {
                x.step(0, step < halls ? 0 : 1 + step % 2, 0, step, 1);
            }
            x.start(0);
            x.pass(7);
            Check.same("nothing before it is done", x.tourOf(0, 8), 0);
            x.pass(1);
            Check.same("for each hall", x.tourOf(0, 8), 10 * halls);
            Check.same("brought", x.number(10), 10 * halls);
            Check.same("the coins", x.number(7), 100 - x.tourOf(0, 6) + 10 * halls);
        }
    }

    /** "When as many failed for a step as the limit and 1 together, the tour goes back." */
    private static void limitAndOneTogether() {
        for (int limit = 0; limit <= 4; limit++) {
            TheatreSaga x = new TheatreSaga();
            Edge.run(x, limit, Edge.beds(0, 0, 1), Edge.hall(1, 0));
            Edge.run(x, limit, Edge.hall(1, 1));
            x.shut(1, true);
            x.pass(1);
            for (int failed = 1; failed <= limit; failed++) {
                x.pass(1);
                Check.same("counted", x.tourOf(0, 4), failed);
                Check.same("it runs up to the limit", x.tourOf(0, 0), 1);
            }
            Check.same("tour 1 failed once more, and has no booked step", x.tourOf(1, 0), 4);
            Check.same("it did so in this hour", x.number(13), 2 * limit + 1);
            Check.same("tour 0 goes back, which is not the end", x.pass(1), 0);
            Check.same("it goes back", x.tourOf(0, 0), 2);
            Check.same("its step is still booked", x.tourOf(0, 3), 1);
            Check.same("then it is undone", x.pass(1), 1);
        }
    }

    /** Failed tries are counted for a step, for whichever fault. */
    private static void countedForAStep() {
        TheatreSaga x = new TheatreSaga();
        Edge.run(x, 0, Edge.hall(0, 0));
        x.pass(1);
        Edge.run(x, 2, Edge.hall(0, 0));
        x.pass(1);
        x.shut(0, true);
        x.pass(1);
        Check.same("two of different faults", x.tourOf(1, 4), 2);
        Check.same("it runs", x.tourOf(1, 0), 1);
        Check.same("the third one ends it", x.pass(1), 1);
        TheatreSaga y = new TheatreSaga();
        Edge.run(y, 1, Edge.hall(0, 0), Edge.hall(1, 0));
        y.shut(0, true);
        y.shut(1, true);
        y.pass(1);
        y.shut(0, false);
        y.pass(2);
        Check.same("one failed for each step, which is within the limit", y.tourOf(0, 0), 1);
        Check.same("one for this step", y.tourOf(0, 4), 1);
        y.pass(1);
        Check.same("two failed for a step", y.tourOf(0, 0), 2);
    }

    /** "Counted from 0 anew as soon as a step is booked, or undone, or the tour goes back." */
    private static void countedAnew() {
        TheatreSaga x = new TheatreSaga();
        Edge.run(x, 4, Edge.hall(0, 0), Edge.hall(0, 1), Edge.hall(0, 2), Edge.hall(1, 0));
        Check.same("0 at first", x.tourOf(0, 4), 0);
        x.shut(0, true);
        x.pass(4);
        Check.same("four", x.tourOf(0, 4), 4);
        x.shut(0, false);
        x.pass(1);
        Check.same("0 as soon as a step is booked", x.tourOf(0, 4), 0);
        x.pass(2);
        x.shut(1, true);
        x.pass(3);
        Check.same("three", x.tourOf(0, 4), 3);
        x.shut(0, true);
        x.back(0);
        Check.same("0 as soon as it is called back", x.tourOf(0, 4), 0);
        x.pass(9);
        Check.same("nine backward", x.tourOf(0, 4), 9);
        x.shut(0, false);
        x.pass(1);
        Check.same("0 as soon as a step is undone", x.tourOf(0, 4), 0);
        x.pass(1);
        x.shut(0, true);
        x.pass(2);
        x.shut(0, false);
        x.pass(1);
        Check.same("0 when it is undone", x.tourOf(0, 4), 0);
        TheatreSaga y = new TheatreSaga();
        Edge.run(y, 1, Edge.hall(0, 0), Edge.hall(1, 0));
        y.shut(1, true);
        y.pass(2);
        Check.same("one", y.tourOf(0, 4), 1);
        y.pass(1);
        Check.same("0 as soon as it goes back", y.tourOf(0, 4), 0);
        Check.same("it does", y.tourOf(0, 0), 2);
    }

    /** "A try of a tour that goes back is for its last step that is booked. It fails for 1 if the town is shut." */
    private static void backwardFaults() {
        TheatreSaga x = new TheatreSaga();
        Edge.run(x, 0, Edge.beds(0, 0, 12), Edge.beds(1, 0, 12), Edge.beds(2, 0, 12), Edge.hall(3, 0));
        x.pass(3);
        Edge.makeAllDear(x, 5);
        x.back(0);
        x.shut(0, true);
        x.shut(1, true);
        x.shut(3, true);
        Check.same("only the town of the last booked step counts", x.faultOf(0), 0);
        x.pass(1);
        Check.same("the last one is undone first", x.stepOf(0, 2, 4), 0);
        Check.same("two are booked", x.tourOf(0, 3), 2);
        Check.same("now this one's town is shut", x.faultOf(0), 1);
        x.pass(40);
        Check.same("it fails without a limit", x.tourOf(0, 4), 40);
        Check.same("it goes back still", x.tourOf(0, 0), 2);
        Check.same("nothing came back in these hours", x.tourOf(0, 7), 12);
        Check.same("the cause", x.tourOf(0, 5), 1);
        x.shut(1, false);
        x.pass(1);
        Check.same("the next one is undone", x.tourOf(0, 7), 24);
        Check.same("one is booked", x.tourOf(0, 3), 1);
    }

    /** "Half of what was paid for it comes back, rounded down." */
    private static void halfRoundedDown() {
        for (int many = 1; many <= 12; many++) {
            TheatreSaga x = new TheatreSaga();
            x.dear(0, 1);
            Edge.run(x, 0, Edge.beds(0, 0, many), Edge.hall(1, 0));
            x.pass(1);
            x.back(0);
            x.pass(1);
            Check.same("half of " + many, x.tourOf(0, 7), many / 2);
            Check.same("came back so far", x.number(9), many / 2);
            Check.same("the coins", x.number(7), 100 - many + many / 2);
            Check.same("paid so far, as before", x.tourOf(0, 6), many);
            Check.same("it is not booked any more", x.left(2, 0, 0), 12);
        }
        TheatreSaga y = new TheatreSaga();
        y.dear(0, 1);
        Edge.run(y, 0, Edge.beds(0, 0, 1), Edge.beds(0, 1, 3), Edge.hall(1, 0));
        y.pass(2);
        y.back(0);
        y.pass(2);
        Check.same("rounded for each step", y.tourOf(0, 7), 1);
    }

    /** "When no step is booked any more, the tour is undone. Without a booked step it is undone at once." */
    private static void undoneAtOnce() {
        TheatreSaga x = new TheatreSaga();
        Edge.run(x, 0, Edge.hall(0, 0), Edge.hall(0, 1), Edge.hall(0, 2));
        x.pass(2);
        x.back(0);
        Check.same("one is booked still", x.pass(1), 0);
        Check.same("it goes back", x.tourOf(0, 0), 2);
        Check.same("none is booked any more", x.pass(1), 1);
        Check.same("it is undone", x.tourOf(0, 0), 4);
        Edge.run(x, 4, Edge.hall(0, 0));
        Check.answers("called back without a booked step", () -> x.back(1), 0);
        Check.same("at once", x.tourOf(1, 0), 4);
        Check.same("without a try", x.number(12), 4);
        x.shut(0, true);
        Edge.run(x, 0, Edge.hall(0, 0));
        Check.same("in the hour in which its try failed", x.pass(1), 1);
        Check.same("with one try", x.number(12), 5);
    }

    /** "The fault for which its latest try failed, 0 as long as none did; or 4 from when it was called back." */
    private static void causes() {
        TheatreSaga x = new TheatreSaga();
        Edge.plan(x, 4, Edge.hall(0, 0), Edge.hall(0, 1), Edge.hall(0, 2));
        Check.same("0 when it is planned", x.tourOf(0, 5), 0);
        x.start(0);
        x.pass(1);
        Check.same("0 as long as none failed", x.tourOf(0, 5), 0);
        x.shut(0, true);
        x.pass(1);
        Check.same("1", x.tourOf(0, 5), 1);
        x.shut(0, false);
        x.pass(1);
        Check.same("still 1: it is the latest that failed", x.tourOf(0, 5), 1);
        x.back(0);
        Check.same("4", x.tourOf(0, 5), 4);
        x.pass(1);
        Check.same("4 as long as none fails", x.tourOf(0, 5), 4);
    }

    /** "... until another try fails", and "The cause of a tour stays when it is over." */
    private static void causesWhenOver() {
        TheatreSaga x = new TheatreSaga();
        Edge.run(x, 0, Edge.hall(0, 0), Edge.hall(1, 0));
        Edge.run(x, 0, Edge.hall(2, 0), Edge.hall(1, 1));
        x.pass(1);
        x.back(0);
        x.back(1);
        x.shut(0, true);
        x.pass(1);
        Check.same("until another try fails", x.tourOf(0, 5), 1);
        Check.same("the one that is over: 4", x.tourOf(1, 5), 4);
        Check.same("it is over", x.tourOf(1, 0), 4);
        x.shut(0, false);
        x.pass(5);
        Check.same("it stays when it is over", x.tourOf(0, 0) * 10 + x.tourOf(0, 5), 41);
        Edge.run(x, 4, Edge.hall(3, 3));
        Edge.run(x, 4, Edge.hall(3, 3));
        x.shut(3, true);
        x.pass(1);
        x.shut(3, false);
        x.pass(1);
        Check.same("it stays when it is done", x.tourOf(2, 0) * 10 + x.tourOf(2, 5), 31);
        Check.same("2 of the other", x.tourOf(3, 5), 2);
    }

    // ---- refusals, details

    /** "1: this number; 2: how it is; 3: the tour; 4: 1 if it is open, and 0 if it is shut; 5: the step." */
    private static void refusals() {
        Edge.isRefused("six tours", Edge::full, 1, 6, x -> x.tour(0));
        Edge.isRefused("eight steps", Edge::full, 1, 8, x -> x.step(5, 2, 0, 2, 1));
        for (int how = 1; how <= 4; how++) {
            int tour = how;
            Edge.isRefused("a step of a tour that is " + how, Edge::busy, 2, how, x -> x.step(tour, 2, 4, 4, 1));
            Edge.isRefused("a start of a tour that is " + how, Edge::busy, 2, how, x -> x.start(tour));
        }
        for (int how : new int[] {0, 2, 3, 4}) {
            Edge.isRefused("back of a tour that is " + how, Edge::busy, 2, how, x -> x.back(how));
        }
        Edge.isRefused("no step", x -> x.tour(0), 3, 0, x -> x.start(0));
        Edge.isRefused("no step of tour 5", TermsEdgeTest::sixWithoutSteps, 3, 5, x -> x.start(5));
        for (int town = 0; town < 5; town++) {
            int t = town;
            boolean isOpen = town < 3;
            Edge.isRefused("so already", Edge::busy, 4, isOpen ? 1 : 0, x -> x.shut(t, !isOpen));
        }
        int[][] steps = {{0, 0, 0, 1}, {0, 0, 1, 1}, {1, 0, 0, 4}, {1, 1, 0, 1}, {2, 0, 0, 12}, {2, 0, 1, 1},
            {2, 4, 19, 7}, {0, 4, 19, 1}};
        for (int step = 0; step < 8; step++) {
            int[] s = steps[step];
            Edge.isRefused("this step already", Edge::full, 5, step, x -> x.step(5, s[0], s[1], s[2], s[3]));
        }
    }

    private static void sixWithoutSteps(TheatreSaga x) {
        for (int tour = 0; tour < 6; tour++) {
            x.tour(4);
        }
    }

    /** "As much is left in a town that is shut"; "Steps that were undone"; "Tries backward count as tries." */
    private static void details() {
        TheatreSaga x = new TheatreSaga();
        Edge.run(x, 0, Edge.hall(0, 0), Edge.wagons(0, 0, 3), Edge.beds(0, 0, 12), Edge.hall(4, 0));
        x.pass(3);
        x.shut(0, true);
        int[] due = {0, 1, 0};
        for (int kind = 0; kind < 3; kind++) {
            Check.same("as much is left in a town that is shut", x.left(kind, 0, 0), due[kind]);
            Check.same("as much is left, step by step", x.leftAgain(kind, 0, 0), due[kind]);
            Check.same("all on another day", x.left(kind, 0, 1), new int[] {1, 4, 12}[kind]);
        }
        x.shut(0, false);
        Check.same("without the booked steps", x.costs(0), 12);
        x.back(0);
        int tries = x.number(12);
        x.pass(1);
        Check.same("a step that was undone counts among what it would cost", x.costs(0), 36);
        Check.same("it is not booked", x.stepOf(0, 2, 4), 0);
        Check.same("it is left", x.left(2, 0, 0) + x.leftAgain(2, 0, 0), 24);
        Check.same("a try backward counts as a try", x.number(12), tries + 1);
        x.shut(0, true);
        x.pass(1);
        Check.same("a failed one too", x.number(12), tries + 2);
        Check.same("a failed one backward counts as failed", x.number(13), 1);
        x.shut(0, false);
        x.pass(2);
        Check.same("all that were undone", x.costs(0), 60);
        Check.same("undone", x.tourOf(0, 0), 4);
    }

    /** "A tour that turns back makes its first try backward in the next hour." */
    private static void turnsBackAndTriesInTheNextHour() {
        TheatreSaga x = new TheatreSaga();
        Edge.run(x, 0, Edge.hall(0, 0), Edge.hall(1, 0));
        x.shut(1, true);
        x.pass(1);
        Check.same("not in the hour in which it turns", x.pass(1), 0);
        Check.same("still booked", x.tourOf(0, 3), 1);
        Check.same("two tries", x.number(12), 2);
        Check.same("in the next one", x.pass(1), 1);
        TheatreSaga y = new TheatreSaga();
        Edge.run(y, 0, Edge.hall(0, 0), Edge.hall(1, 0));
        y.pass(1);
        y.back(0);
        Check.same("not when it is called back", y.tourOf(0, 3), 1);
        Check.same("no try when it is called back", y.number(12), 1);
        Check.same("but in the next hour", y.pass(1), 1);
    }

    // ---- undo, exceptions

    /** "The latest 8 can be undone." */
    private static void undo() {
        for (int changes = 0; changes <= 10; changes++) {
            TheatreSaga x = new TheatreSaga();
            for (int i = 0; i < changes; i++) {
                x.pass(1);
            }
            int can = Math.min(changes, 8);
            Check.same("of " + changes + " changes", x.number(16), can);
            for (int left = can - 1; left >= 0; left--) {
                Check.answers("undo", x::undo, left);
                Check.same("one hour less", x.number(0), changes - can + left);
            }
            Check.refuses("no more", x::undo, Edge.STATE);
            Check.same("what was forgotten stays", x.number(0), changes - can);
        }
    }

    /** "The changes are the successful calls of tour, step, start, back, shut, dear, pass and read." */
    private static void whatIsAChange() {
        TheatreSaga x = new TheatreSaga();
        x.tour(0);
        Check.same("tour", x.number(16), 1);
        x.step(0, 0, 0, 0, 1);
        Check.same("step", x.number(16), 2);
        x.start(0);
        Check.same("start", x.number(16), 3);
        x.back(0);
        Check.same("back", x.number(16), 4);
        x.shut(0, true);
        Check.same("shut", x.number(16), 5);
        x.dear(0, 2);
        Check.same("dear, also if nothing is different then", x.number(16), 6);
        x.pass(40);
        Check.same("pass", x.number(16), 7);
        Edge.tell(x, "open 0;shut 0");
        Check.same("read, also if nothing is different then", x.number(16), 8);
        x.saveSnapshot();
        x.line(0);
        Check.answer(() -> x.tour(9));
        Check.answer(() -> x.start(0));
        Check.answer(() -> x.shut(0, true));
        Check.answer(x::read);
        int[] hours = {40, 0, 0, 0, 0, 0, 0, 0};
        for (int i = 0; i < 8; i++) {
            Check.answers("none of these was one", x::undo, 7 - i);
            Check.same("the hour", x.number(0), hours[i]);
        }
        Check.same("as at first", x.number(1), 0);
    }

    /** "What was forgotten stays forgotten." */
    private static void forgotten() {
        TheatreSaga x = new TheatreSaga();
        for (int i = 0; i < 12; i++) {
            x.pass(1);
        }
        for (int i = 0; i < 5; i++) {
            x.undo();
        }
        Check.same("three are left", x.number(16), 3);
        x.pass(10);
        x.pass(10);
        Check.same("and two new ones", x.number(16), 5);
        int[] due = {17, 7, 6, 5, 4};
        for (int hour : due) {
            x.undo();
            Check.same("back to the hour", x.number(0), hour);
        }
        Check.refuses("the first four are forgotten", x::undo, Edge.STATE);
        Check.same("the fourth hour", x.number(0), 4);
    }

    /** "If several exceptions apply, the one that is documented first is thrown." */
    private static void firstDocumented() {
        Edge.leaves("tour: limit, then six", Edge::full, Edge.ARGUMENT, x -> x.tour(5));
        Edge.leaves("step: day, then kind", Edge::busy, Edge.INDEX, x -> x.step(0, 3, 0, 20, 0));
        Edge.leaves("step: town, then number", Edge::busy, Edge.INDEX, x -> x.step(0, 0, 5, 0, 2));
        Edge.leaves("step: tour, then kind", Edge::busy, Edge.INDEX, x -> x.step(5, -1, 0, 0, 0));
        Edge.leaves("step: town, then how the tour is", Edge::busy, Edge.INDEX, x -> x.step(3, 0, -1, 0, 1));
        Edge.leaves("step: number, then how the tour is", Edge::busy, Edge.ARGUMENT, x -> x.step(3, 1, 0, 0, 5));
        Edge.leaves("step: kind, then eight", Edge::full, Edge.ARGUMENT, x -> x.step(5, 3, 0, 0, 1));
        Edge.leaves("tourOf: tour, then what", Edge::busy, Edge.INDEX, x -> x.tourOf(5, 9));
        Edge.leaves("stepOf: tour, then what", Edge::busy, Edge.INDEX, x -> x.stepOf(5, 0, 5));
        Edge.leaves("stepOf: step, then what", Edge::busy, Edge.INDEX, x -> x.stepOf(0, 2, 5));
        Edge.leaves("dear: town, then dearness", Edge::busy, Edge.INDEX, x -> x.dear(5, 6));
        Edge.leaves("townOf: town, then what", Edge::busy, Edge.INDEX, x -> x.townOf(5, 4));
        Edge.leaves("cheapest: kind, then number", Edge::busy, Edge.INDEX, x -> x.cheapest(3, 0, 0));
        Edge.leaves("cheapest: day, then number", Edge::busy, Edge.INDEX, x -> x.cheapest(0, 20, 13));
        Edge.leaves("cheapest: number, then none", Edge::busy, Edge.ARGUMENT, x -> x.cheapest(0, 0, 13));
        Edge.isNoText("shut 4;tour 1;", Edge::busy, 14);
        Edge.isNoText("hours 99;tour 12", Edge::full, 15);
    }

    /** "The input, the line, the fault position and the refusal are neither undone nor saved, and stay." */
    private static void neitherUndoneNorSaved() {
        Check.same("undo", State.kept(x -> {
            Edge.busy(x);
            x.undo();
            x.undo();
        }), State.kept(Edge::busy));
        Check.same("save and restore", State.kept(x -> {
            Edge.busy(x);
            x.saveSnapshot();
            x.restoreSnapshot();
        }), State.kept(Edge::busy));
        TheatreSaga x = new TheatreSaga();
        x.tour(0);
        x.saveSnapshot();
        x.line(0);
        Check.answer(() -> x.start(0));
        x.feed('!');
        Check.answer(x::read);
        x.feed('t');
        x.restoreSnapshot();
        Check.same("the line that was not when it was saved", x.character(1), 'p');
        Check.same("the refusal", x.refusal(true), 3);
        Check.same("the fault position", x.faultPosition(), 0);
        Check.same("the input", x.number(17), 1);
        x.pass(1);
        x.feed('o');
        x.undo();
        Check.same("the input when undone", x.number(17), 2);
        Check.same("the line when undone", x.character(0), '0');
        Check.same("the refusal when undone", x.refusal(false), 0);
        Check.same("the fault position when undone", x.faultPosition(), 0);
    }
}
