import java.lang.reflect.Field;
import java.lang.reflect.Method;

/**
 * The two edges that no run of calls comes to, the 9999 coins and the 60 hours of endsIn: here a number inside the
 * object is set from outside, and the calls go on from there.
 */
public final class OutOfReachTest {
    private static final int LIMIT = 1;
    private static final int BROUGHT = 8;
    private static final int COINS = 7;

    private OutOfReachTest() {
    }

    public static void main(String[] args) throws ReflectiveOperationException {
        for (int coins = 9990; coins <= 9999; coins++) {
            brought(coins);
            cameBack(coins);
        }
        severalAreLost();
        lostInATextAndUndone();
        for (int limit = 5; limit <= 70; limit++) {
            hoursAhead(limit);
        }
        lastHourByBooking();
        Check.end("OutOfReachTest");
    }

    private static int[] cellsOf(TheatreSaga x) throws ReflectiveOperationException {
        Field books = TheatreSaga.class.getDeclaredField("books");
        books.setAccessible(true);
        Field cells = books.getType().getDeclaredField("cells");
        cells.setAccessible(true);
        return (int[]) cells.get(books.get(x));
    }

    private static int ofTour(int tour, int what) throws ReflectiveOperationException {
        Method place = TheatreSaga.class.getDeclaredMethod("ofTour", int.class, int.class);
        place.setAccessible(true);
        return (int) place.invoke(null, tour, what);
    }

    private static void setLimit(TheatreSaga x, int tour, int limit) throws ReflectiveOperationException {
        cellsOf(x)[ofTour(tour, LIMIT)] = limit;
        Check.same("the limit is set", x.tourOf(tour, 1), limit);
    }

    /** Sets the coins as if the first tour, which is done, had brought what is more. */
    private static void setCoins(TheatreSaga x, int coins) throws ReflectiveOperationException {
        cellsOf(x)[ofTour(0, BROUGHT)] += coins - x.number(7);
        cellsOf(x)[COINS] = coins;
        Check.same("the coins are set", x.number(7), coins);
        Check.same("the coins are set again", x.coinsAgain(), coins);
    }

    /** A tour is done, so that setCoins has one that brought something. */
    private static TheatreSaga rich() {
        TheatreSaga x = new TheatreSaga();
        Edge.makeAllDear(x, 1);
        Edge.run(x, 0, Edge.hall(4, 0));
        x.pass(1);
        return x;
    }

    // ---- "never more than 9999; what would be above, when coins come back or are brought, is lost"

    private static void brought(int coins) throws ReflectiveOperationException {
        TheatreSaga x = rich();
        Edge.run(x, 0, Edge.hall(0, 0));
        setCoins(x, coins);
        int before = x.number(10);
        x.pass(1);
        int lost = Math.max(0, coins - 6 + 10 - 9999);
        Check.same("never more than 9999", x.number(7), coins - 6 + 10 - lost);
        Check.same("what is above is lost", x.number(11), lost);
        Check.same("brought, those that were lost included", x.number(10), before + 10);
        Check.same("the tour brought, what was lost of it included", x.tourOf(1, 8), 10);
        Check.same("the coins by the second way", x.coinsAgain(), x.number(7));
        x.undo();
        Check.same("nothing is lost when it is undone", x.number(11), 0);
        Check.same("the coins when it is undone", x.number(7), coins);
    }

    private static void cameBack(int coins) throws ReflectiveOperationException {
        TheatreSaga x = rich();
        Edge.run(x, 0, Edge.beds(0, 0, 11), Edge.hall(0, 1));
        x.pass(1);
        setCoins(x, coins);
        x.back(1);
        x.pass(1);
        int lost = Math.max(0, coins + 5 - 9999);
        Check.same("never more than 9999", x.number(7), coins + 5 - lost);
        Check.same("what is above is lost", x.number(11), lost);
        Check.same("came back, what was lost of it included", x.number(9), 5);
        Check.same("the tour's, what was lost of it included", x.tourOf(1, 7), 5);
        Check.same("the coins by the second way", x.coinsAgain(), x.number(7));
    }

    private static void severalAreLost() throws ReflectiveOperationException {
        TheatreSaga x = rich();
        Edge.run(x, 0, Edge.hall(0, 0), Edge.hall(0, 1), Edge.hall(0, 2));
        Edge.run(x, 0, Edge.beds(1, 0, 12), Edge.beds(1, 1, 12), Edge.hall(2, 0));
        x.pass(2);
        x.back(2);
        setCoins(x, 9999);
        x.pass(1);
        Check.same("9999 - 6 + 30, then 6 more", x.number(11), 24 + 6);
        Check.same("full", x.number(7), 9999);
        x.saveSnapshot();
        x.pass(1);
        Check.same("6 more", x.number(11), 36);
        Check.same("still full", x.number(7), 9999);
        Check.same("still full by the second way", x.coinsAgain(), 9999);
        x.restoreSnapshot();
        Check.same("as it was saved", x.number(11), 30);
    }

    private static void lostInATextAndUndone() throws ReflectiveOperationException {
        TheatreSaga x = rich();
        setCoins(x, 9999);
        Check.same("a text", Edge.tell(x, "tour 0;hall 1 0/0;start 1;hours 1"), 4);
        Check.same("lost", x.number(11), 4);
        x.undo();
        Check.same("not lost", x.number(11), 0);
        Edge.type(x, "tour 0;hall 1 0/0;start 1;hours 1;tour 9");
        Check.refuses("refused", x::read, Edge.REFUSED);
        Check.same("none is lost by a text that is refused", x.number(11), 0);
        Check.same("the coins", x.number(7), 9999);
    }

    // ---- "or this does not come within 60 hours"

    /** A tour that fails as often as the limit and 1 together, and is undone at once then. */
    private static void hoursAhead(int limit) throws ReflectiveOperationException {
        TheatreSaga x = new TheatreSaga();
        Edge.run(x, 0, Edge.hall(0, 0));
        x.shut(0, true);
        setLimit(x, 0, limit);
        String due = limit < 60 ? Integer.toString(limit + 1) : "NoSuchElementException";
        Check.same("the limit " + limit, Check.answer(() -> x.endsIn(0)), due);
        for (int hour = 0; hour < limit - 4; hour++) {
            x.pass(1);
        }
        Check.answers("when this comes within five hours", () -> x.endsIn(0), 5);
        x.pass(5);
        Check.answers("when it is over", () -> x.endsIn(0), 0);
    }

    /** The 60th hour in which a tour is done, not undone. */
    private static void lastHourByBooking() throws ReflectiveOperationException {
        for (int limit = 56; limit <= 58; limit++) {
            TheatreSaga x = new TheatreSaga();
            Edge.run(x, 0, Edge.hall(0, 0), Edge.hall(1, 0));
            x.pass(1);
            x.shut(1, true);
            setLimit(x, 0, limit);
            Edge.run(x, 0, Edge.hall(0, 0), Edge.hall(2, 0));
            setLimit(x, 1, 70);
            String due = limit + 3 <= 60 ? Integer.toString(limit + 3) : "NoSuchElementException";
            Check.same("tour 0 gives the hall back in the hour " + (limit + 2), Check.answer(() -> x.endsIn(1)), due);
            Check.same("tour 0 is undone an hour before", Check.answer(() -> x.endsIn(0)), Integer.toString(limit + 2));
        }
    }
}
