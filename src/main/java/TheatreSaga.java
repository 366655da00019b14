import java.util.NoSuchElementException;

/** The tours of a travelling theatre as sagas; ../shared/DOC.md says what each method promises. */
public final class TheatreSaga {
    private static final int TOWNS = 5;
    private static final int DAYS = 20;
    private static final int KINDS = 3;
    private static final int MOST_TOURS = 6;
    private static final int MOST_STEPS = 8;
    private static final int MOST_LIMIT = 4;
    private static final int MOST_DEARNESS = 5;
    private static final int FIRST_DEARNESS = 2;
    private static final int MOST_HOURS = 40;
    private static final int MOST_HOURS_AHEAD = 60;
    private static final int MOST_ASKED = 12;
    private static final int FIRST_COINS = 100;
    private static final int MOST_COINS = 9999;
    private static final int COINS_OF_A_HALL = 10;
    private static final int MOST_INPUT = 60;
    private static final int MOST_UNDOS = 8;

    private static final int HALL = 0;
    private static final int WAGONS = 1;
    private static final int BEDS = 2;

    private static final int PLANNED = 0;
    private static final int RUNS = 1;
    private static final int GOES_BACK = 2;
    private static final int DONE = 3;
    private static final int UNDONE = 4;

    private static final int NO_FAULT = 0;
    private static final int TOWN_SHUT = 1;
    private static final int TOO_LITTLE_LEFT = 2;
    private static final int TOO_FEW_COINS = 3;
    private static final int CALLED_BACK = 4;

    private static final int AS_MANY_AS_CAN_BE = 1;
    private static final int NOT_AS_IT_MUST_BE = 2;
    private static final int NO_STEP = 3;
    private static final int SO_ALREADY = 4;
    private static final int STEP_ALREADY = 5;
    private static final int BAD_COMMAND = 20;

    // What a judge says, where it does not say a reason of a refusal; those are above 0.
    private static final int FINE = 0;
    private static final int NO_SUCH_THING = -1;
    private static final int OUT_OF_RANGE = -2;

    // The places of the totals are those that number() has for them; 2 to 6 are counted, not kept.
    private static final int HOUR = 0;
    private static final int TOURS = 1;
    private static final int FIRST_CONDITION = 2;
    private static final int LAST_CONDITION = 6;
    private static final int COINS = 7;
    private static final int ALL_PAID = 8;
    private static final int ALL_CAME_BACK = 9;
    private static final int ALL_BROUGHT = 10;
    private static final int LOST = 11;
    private static final int TRIES = 12;
    private static final int FAILED_TRIES = 13;
    private static final int OPEN_TOWNS = 14;
    private static final int BOOKED_STEPS = 15;
    private static final int UNDOS = 16;
    private static final int INPUT_LENGTH = 17;
    private static final int TOTALS = 14;

    // The places of a tour are those that tourOf() has for them.
    private static final int CONDITION = 0;
    private static final int LIMIT = 1;
    private static final int STEPS = 2;
    private static final int BOOKED = 3;
    private static final int FAILED = 4;
    private static final int CAUSE = 5;
    private static final int PAID = 6;
    private static final int CAME_BACK = 7;
    private static final int BROUGHT = 8;
    private static final int TOUR_WIDTH = 9;

    // The places of a step are those that stepOf() has for them.
    private static final int KIND = 0;
    private static final int TOWN = 1;
    private static final int DAY = 2;
    private static final int MANY = 3;
    private static final int STEP_PAID = 4;
    private static final int STEP_WIDTH = 5;

    // The places of a town are those that townOf() has for them.
    private static final int IS_OPEN = 0;
    private static final int DEARNESS = 1;
    private static final int TOWN_BOOKED = 2;
    private static final int TOWN_PAID = 3;
    private static final int TOWN_WIDTH = 4;

    private static final int TOURS_AT = TOTALS;
    private static final int STEPS_AT = TOURS_AT + MOST_TOURS * TOUR_WIDTH;
    private static final int TOWNS_AT = STEPS_AT + MOST_TOURS * MOST_STEPS * STEP_WIDTH;
    private static final int LEFT_AT = TOWNS_AT + TOWNS * TOWN_WIDTH;
    private static final int BOOKS_SIZE = LEFT_AT + KINDS * TOWNS * DAYS;

    // The words that begin a command. Those of the kinds stand in the order of the kinds.
    private static final int SAY_TOUR = 0;
    private static final int SAY_HALL = 1;
    private static final int SAY_WAGONS = 2;
    private static final int SAY_BEDS = 3;
    private static final int SAY_START = 4;
    private static final int SAY_BACK = 5;
    private static final int SAY_SHUT = 6;
    private static final int SAY_OPEN = 7;
    private static final int SAY_HOURS = 8;
    private static final int WORDS = 9;

    private static final int NONE = -1;

    private final Theatre theatre = new Theatre();
    private final Books books = theatre.books;
    private final Theatre ahead = new Theatre();
    private final Judge judge = new Judge();
    private final History history = new History();
    private final Books beforeText = new Books();
    private final Books snapshot = new Books();
    private boolean hasSnapshot = false;
    private final Text text = new Text();
    private final Line latestLine = new Line();
    private int faultKept = NONE;

    public TheatreSaga() {
    }

    // ---- tours, steps

    public int tour(int limit) throws IllegalArgumentException, UnsupportedOperationException {
        allow(judge.planning(books, limit));
        history.keep(books);
        return theatre.planTour(limit);
    }

    public int step(int tour, int kind, int town, int day, int many)
            throws IndexOutOfBoundsException, IllegalArgumentException, UnsupportedOperationException {
        allow(judge.giving(books, tour, kind, town, day, many));
        history.keep(books);
        return theatre.giveStep(tour, kind, town, day, many);
    }

    public int start(int tour) throws IndexOutOfBoundsException, UnsupportedOperationException {
        allow(judge.starting(books, tour));
        history.keep(books);
        return theatre.startTour(tour);
    }

    public int back(int tour) throws IndexOutOfBoundsException, UnsupportedOperationException {
        allow(judge.callingBack(books, tour));
        history.keep(books);
        return theatre.callBack(tour);
    }

    public int tourOf(int tour, int what) throws IndexOutOfBoundsException, IllegalArgumentException {
        needTour(tour);
        needRange(what, 0, TOUR_WIDTH - 1);
        return books.get(ofTour(tour, what));
    }

    public int stepOf(int tour, int step, int what) throws IndexOutOfBoundsException, IllegalArgumentException {
        needTour(tour);
        needBelow(step, books.get(ofTour(tour, STEPS)));
        needRange(what, 0, STEP_WIDTH - 1);
        return books.get(ofStep(tour, step, what));
    }

    // ---- towns, hours

    public int shut(int town, boolean isShut) throws IndexOutOfBoundsException, UnsupportedOperationException {
        allow(judge.shutting(books, town, isShut));
        history.keep(books);
        return theatre.shutTown(town, isShut);
    }

    public int dear(int town, int dearness) throws IndexOutOfBoundsException, IllegalArgumentException {
        needBelow(town, TOWNS);
        needRange(dearness, 1, MOST_DEARNESS);
        history.keep(books);
        int before = books.get(ofTown(town, DEARNESS));
        books.set(ofTown(town, DEARNESS), dearness);
        return before;
    }

    public int townOf(int town, int what) throws IndexOutOfBoundsException, IllegalArgumentException {
        needBelow(town, TOWNS);
        needRange(what, 0, TOWN_WIDTH - 1);
        return books.get(ofTown(town, what));
    }

    public int pass(int hours) throws IllegalArgumentException {
        allow(judge.passing(hours));
        history.keep(books);
        return theatre.passHours(hours);
    }

    // ---- what is left, what comes ahead

    public int left(int kind, int town, int day) throws IndexOutOfBoundsException {
        needBelow(kind, KINDS);
        needBelow(town, TOWNS);
        needBelow(day, DAYS);
        return books.get(ofLeft(kind, town, day));
    }

    public int leftAgain(int kind, int town, int day) throws IndexOutOfBoundsException {
        needBelow(kind, KINDS);
        needBelow(town, TOWNS);
        needBelow(day, DAYS);
        return theatre.leftByStepsOf(kind, town, day);
    }

    public int faultOf(int tour) throws IndexOutOfBoundsException, NoSuchElementException {
        needTour(tour);
        if (!theatre.isUnderWay(tour)) {
            throw new NoSuchElementException("the tour neither runs nor goes back");
        }
        return theatre.nextFault(tour);
    }

    public int endsIn(int tour) throws IndexOutOfBoundsException, NoSuchElementException {
        needTour(tour);
        if (books.get(ofTour(tour, CONDITION)) == PLANNED) {
            throw new NoSuchElementException("the tour is planned");
        }
        ahead.books.take(books);
        int hours = ahead.hoursToTheEnd(tour);
        if (hours == NONE) {
            throw new NoSuchElementException("the tour does not end within the hours that are looked at");
        }
        return hours;
    }

    public int costs(int tour) throws IndexOutOfBoundsException {
        needTour(tour);
        return theatre.costsOfTheRest(tour);
    }

    public int cheapest(int kind, int day, int many)
            throws IndexOutOfBoundsException, IllegalArgumentException, NoSuchElementException {
        needBelow(kind, KINDS);
        needBelow(day, DAYS);
        needRange(many, 1, MOST_ASKED);
        int town = theatre.cheapestTown(kind, day, many);
        if (town == NONE) {
            throw new NoSuchElementException("there is no such town");
        }
        return town;
    }

    public int ranked(int place) throws NoSuchElementException {
        int tour = theatre.tourInPlace(place);
        if (tour == NONE) {
            throw new NoSuchElementException("there is no such place");
        }
        return tour;
    }

    // ---- lines, accounts

    public int line(int tour) throws IndexOutOfBoundsException {
        needTour(tour);
        latestLine.write(books, tour);
        return latestLine.length();
    }

    public char character(int i) throws IndexOutOfBoundsException {
        needBelow(i, latestLine.length());
        return latestLine.signAt(i);
    }

    public int number(int what) throws IllegalArgumentException {
        needRange(what, HOUR, INPUT_LENGTH);
        if (what >= FIRST_CONDITION && what <= LAST_CONDITION) {
            return theatre.toursThatAre(what - FIRST_CONDITION);
        }
        switch (what) {
            case OPEN_TOWNS:
                return theatre.openTowns();
            case BOOKED_STEPS:
                return theatre.sumOfTours(BOOKED);
            case UNDOS:
                return history.count();
            case INPUT_LENGTH:
                return text.length();
            default:
                return books.get(what);
        }
    }

    public int coinsAgain() {
        int gained = theatre.sumOfTours(CAME_BACK) + theatre.sumOfTours(BROUGHT);
        return FIRST_COINS + gained - theatre.sumOfTours(PAID) - books.get(LOST);
    }

    public double meanSteps() throws ArithmeticException {
        int tours = books.get(TOURS);
        if (tours == 0) {
            throw new ArithmeticException("there are no tours");
        }
        return (double) theatre.sumOfTours(STEPS) / (double) tours;
    }

    public float failedShare() throws ArithmeticException {
        int tries = books.get(TRIES);
        if (tries == 0) {
            throw new ArithmeticException("there were no tries");
        }
        return (float) books.get(FAILED_TRIES) / (float) tries;
    }

    // ---- texts

    public int feed(char character) throws IllegalStateException {
        if (text.length() >= MOST_INPUT) {
            throw new IllegalStateException("the input is full");
        }
        text.append(character);
        return text.length();
    }

    public int read() throws IllegalArgumentException, UnsupportedOperationException {
        int fault = text.findFault();
        if (fault != NONE) {
            faultKept = fault;
            text.clear();
            throw new IllegalArgumentException("the input is no text");
        }
        beforeText.take(books);
        text.rewind();
        int commands = 0;
        do {
            text.readCommand();
            if (isCommandRefused(commands)) {
                books.take(beforeText);
                text.clear();
                throw new UnsupportedOperationException("a command is refused");
            }
            carryOutCommand();
            commands++;
        } while (commands < MOST_INPUT && text.readSign(';'));
        text.clear();
        history.keep(beforeText);
        return commands;
    }

    public int faultPosition() throws NoSuchElementException {
        if (faultKept == NONE) {
            throw new NoSuchElementException("no fault position was kept");
        }
        return faultKept;
    }

    public int refusal(boolean isReason) throws NoSuchElementException {
        if (judge.reason() == FINE) {
            throw new NoSuchElementException("nothing was refused");
        }
        return isReason ? judge.reason() : judge.detail();
    }

    // ---- undo, snapshots

    public int undo() throws IllegalStateException {
        if (history.count() == 0) {
            throw new IllegalStateException("there is no change that can be undone");
        }
        history.takeBack(books);
        return history.count();
    }

    public int saveSnapshot() {
        snapshot.take(books);
        hasSnapshot = true;
        return books.get(TOURS);
    }

    public int restoreSnapshot() throws IllegalStateException {
        if (!hasSnapshot) {
            throw new IllegalStateException("there is no snapshot");
        }
        books.take(snapshot);
        history.forget();
        return books.get(TOURS);
    }

    // ---- helpers of the face

    private static boolean isBelow(int value, int bound) {
        return value >= 0 && value < bound;
    }

    private static boolean isWithin(int value, int least, int most) {
        return value >= least && value <= most;
    }

    private static void needBelow(int value, int bound) {
        if (!isBelow(value, bound)) {
            throw new IndexOutOfBoundsException("there is no such thing");
        }
    }

    private static void needRange(int value, int least, int most) {
        if (!isWithin(value, least, most)) {
            throw new IllegalArgumentException("the number is out of range");
        }
    }

    private void needTour(int tour) {
        needBelow(tour, books.get(TOURS));
    }

    private static void allow(int verdict) {
        if (verdict == NO_SUCH_THING) {
            throw new IndexOutOfBoundsException("there is no such thing");
        }
        if (verdict == OUT_OF_RANGE) {
            throw new IllegalArgumentException("the number is out of range");
        }
        if (verdict != FINE) {
            throw new UnsupportedOperationException("it is refused");
        }
    }

    private boolean isCommandRefused(int command) {
        int verdict = judgeCommand();
        if (verdict == NO_SUCH_THING || verdict == OUT_OF_RANGE) {
            verdict = judge.refuse(BAD_COMMAND, command);
        }
        return verdict != FINE;
    }

    private int judgeCommand() {
        switch (text.word()) {
            case SAY_TOUR:
                return judge.planning(books, text.first());
            case SAY_START:
                return judge.starting(books, text.first());
            case SAY_BACK:
                return judge.callingBack(books, text.first());
            case SAY_SHUT:
                return judge.shutting(books, text.first(), true);
            case SAY_OPEN:
                return judge.shutting(books, text.first(), false);
            case SAY_HOURS:
                return judge.passing(text.first());
            default:
                return judge.giving(books, text.first(), text.kind(), text.town(), text.day(), text.many());
        }
    }

    private void carryOutCommand() {
        switch (text.word()) {
            case SAY_TOUR:
                theatre.planTour(text.first());
                break;
            case SAY_START:
                theatre.startTour(text.first());
                break;
            case SAY_BACK:
                theatre.callBack(text.first());
                break;
            case SAY_SHUT:
                theatre.shutTown(text.first(), true);
                break;
            case SAY_OPEN:
                theatre.shutTown(text.first(), false);
                break;
            case SAY_HOURS:
                theatre.passHours(text.first());
                break;
            default:
                theatre.giveStep(text.first(), text.kind(), text.town(), text.day(), text.many());
                break;
        }
    }

    // ---- kinds

    /** How many of a kind a town has on a day, and so the most that a step of it books. */
    private static int mostOf(int kind) {
        switch (kind) {
            case HALL:
                return 1;
            case WAGONS:
                return 4;
            case BEDS:
                return 12;
            default:
                return 0;
        }
    }

    /** What one of a kind costs, but for the dearness. */
    private static int coinsOf(int kind) {
        switch (kind) {
            case HALL:
                return 6;
            case WAGONS:
                return 2;
            case BEDS:
                return 1;
            default:
                return 0;
        }
    }

    // ---- places in the books

    private static int ofTour(int tour, int what) {
        return TOURS_AT + tour * TOUR_WIDTH + what;
    }

    private static int ofStep(int tour, int step, int what) {
        return STEPS_AT + (tour * MOST_STEPS + step) * STEP_WIDTH + what;
    }

    private static int ofTown(int town, int what) {
        return TOWNS_AT + town * TOWN_WIDTH + what;
    }

    private static int ofLeft(int kind, int town, int day) {
        return LEFT_AT + (kind * TOWNS + town) * DAYS + day;
    }

    /** All that changes can change, in one row, so that no copy can leave a part out. */
    private static final class Books {
        private final int[] cells = new int[BOOKS_SIZE];

        Books() {
            set(COINS, FIRST_COINS);
            for (int town = 0; town < TOWNS; town++) {
                set(ofTown(town, IS_OPEN), 1);
                set(ofTown(town, DEARNESS), FIRST_DEARNESS);
                for (int day = 0; day < DAYS; day++) {
                    set(ofLeft(HALL, town, day), mostOf(HALL));
                    set(ofLeft(WAGONS, town, day), mostOf(WAGONS));
                    set(ofLeft(BEDS, town, day), mostOf(BEDS));
                }
            }
        }

        void take(Books other) {
            System.arraycopy(other.cells, 0, cells, 0, BOOKS_SIZE);
        }

        int get(int place) {
            return place >= 0 && place < cells.length ? cells[place] : 0;
        }

        void set(int place, int value) {
            if (place >= 0 && place < cells.length) {
                cells[place] = value;
            }
        }

        void add(int place, int more) {
            if (place >= 0 && place < cells.length) {
                cells[place] += more;
            }
        }
    }

    /** What happens to the books, and what can be told from them. */
    private static final class Theatre {
        private final Books books = new Books();

        int planTour(int limit) {
            int tour = books.get(TOURS);
            books.set(ofTour(tour, LIMIT), limit);
            books.add(TOURS, 1);
            return tour;
        }

        int giveStep(int tour, int kind, int town, int day, int many) {
            int step = books.get(ofTour(tour, STEPS));
            books.set(ofStep(tour, step, KIND), kind);
            books.set(ofStep(tour, step, TOWN), town);
            books.set(ofStep(tour, step, DAY), day);
            books.set(ofStep(tour, step, MANY), many);
            books.set(ofTour(tour, STEPS), step + 1);
            return step + 1;
        }

        int startTour(int tour) {
            books.set(ofTour(tour, CONDITION), RUNS);
            return toursThatAre(RUNS);
        }

        int callBack(int tour) {
            books.set(ofTour(tour, CAUSE), CALLED_BACK);
            turnBack(tour);
            return books.get(ofTour(tour, BOOKED));
        }

        int shutTown(int town, boolean isShut) {
            books.set(ofTown(town, IS_OPEN), isShut ? 0 : 1);
            return openTowns();
        }

        /** Returns how many tours are done or undone in these hours. */
        int passHours(int hours) {
            int ended = 0;
            for (int hour = 0; hour < hours; hour++) {
                for (int tour = 0; tour < MOST_TOURS; tour++) {
                    if (isUnderWay(tour)) {
                        makeTry(tour);
                        ended += isUnderWay(tour) ? 0 : 1;
                    }
                }
                books.add(HOUR, 1);
            }
            return ended;
        }

        private void makeTry(int tour) {
            books.add(TRIES, 1);
            int fault = nextFault(tour);
            if (fault != NO_FAULT) {
                failTry(tour, fault);
            } else if (books.get(ofTour(tour, CONDITION)) == RUNS) {
                bookNextStep(tour);
                if (books.get(ofTour(tour, BOOKED)) == books.get(ofTour(tour, STEPS))) {
                    finishTour(tour);
                }
            } else {
                undoLastStep(tour);
                if (books.get(ofTour(tour, BOOKED)) == 0) {
                    books.set(ofTour(tour, CONDITION), UNDONE);
                }
            }
        }

        private void failTry(int tour, int fault) {
            books.add(FAILED_TRIES, 1);
            books.add(ofTour(tour, FAILED), 1);
            books.set(ofTour(tour, CAUSE), fault);
            boolean isLast = books.get(ofTour(tour, FAILED)) > books.get(ofTour(tour, LIMIT));
            if (isLast && books.get(ofTour(tour, CONDITION)) == RUNS) {
                turnBack(tour);
            }
        }

        private void turnBack(int tour) {
            books.set(ofTour(tour, FAILED), 0);
            books.set(ofTour(tour, CONDITION), books.get(ofTour(tour, BOOKED)) == 0 ? UNDONE : GOES_BACK);
        }

        private void bookNextStep(int tour) {
            int step = books.get(ofTour(tour, BOOKED));
            int town = books.get(ofStep(tour, step, TOWN));
            int coins = priceOf(tour, step);
            books.set(ofStep(tour, step, STEP_PAID), coins);
            books.add(ofTour(tour, PAID), coins);
            books.add(ofTown(town, TOWN_PAID), coins);
            books.add(ALL_PAID, coins);
            books.add(COINS, -coins);
            countBooking(tour, step, 1);
        }

        private void undoLastStep(int tour) {
            int step = books.get(ofTour(tour, BOOKED)) - 1;
            int coins = books.get(ofStep(tour, step, STEP_PAID)) / 2;
            books.set(ofStep(tour, step, STEP_PAID), 0);
            books.add(ofTour(tour, CAME_BACK), coins);
            books.add(ALL_CAME_BACK, coins);
            gainCoins(coins);
            countBooking(tour, step, -1);
        }

        /** Counts a step as booked, with the sign 1, or as not booked any more, with the sign -1. */
        private void countBooking(int tour, int step, int sign) {
            int kind = books.get(ofStep(tour, step, KIND));
            int town = books.get(ofStep(tour, step, TOWN));
            int day = books.get(ofStep(tour, step, DAY));
            books.add(ofLeft(kind, town, day), -sign * books.get(ofStep(tour, step, MANY)));
            books.add(ofTown(town, TOWN_BOOKED), sign);
            books.add(ofTour(tour, BOOKED), sign);
            books.set(ofTour(tour, FAILED), 0);
        }

        private void finishTour(int tour) {
            int coins = 0;
            for (int step = 0; step < books.get(ofTour(tour, STEPS)); step++) {
                coins += books.get(ofStep(tour, step, KIND)) == HALL ? COINS_OF_A_HALL : 0;
            }
            books.set(ofTour(tour, CONDITION), DONE);
            books.add(ofTour(tour, BROUGHT), coins);
            books.add(ALL_BROUGHT, coins);
            gainCoins(coins);
        }

        private void gainCoins(int coins) {
            int lost = Math.max(0, books.get(COINS) + coins - MOST_COINS);
            books.add(COINS, coins - lost);
            books.add(LOST, lost);
        }

        boolean isUnderWay(int tour) {
            int condition = books.get(ofTour(tour, CONDITION));
            return condition == RUNS || condition == GOES_BACK;
        }

        /** The fault for which the next try of a tour that runs or goes back would fail now. */
        int nextFault(int tour) {
            boolean isForward = books.get(ofTour(tour, CONDITION)) == RUNS;
            int step = isForward ? books.get(ofTour(tour, BOOKED)) : books.get(ofTour(tour, BOOKED)) - 1;
            int kind = books.get(ofStep(tour, step, KIND));
            int town = books.get(ofStep(tour, step, TOWN));
            int day = books.get(ofStep(tour, step, DAY));
            if (books.get(ofTown(town, IS_OPEN)) == 0) {
                return TOWN_SHUT;
            }
            if (isForward && books.get(ofLeft(kind, town, day)) < books.get(ofStep(tour, step, MANY))) {
                return TOO_LITTLE_LEFT;
            }
            if (isForward && books.get(COINS) < priceOf(tour, step)) {
                return TOO_FEW_COINS;
            }
            return NO_FAULT;
        }

        private int priceOf(int tour, int step) {
            int kind = books.get(ofStep(tour, step, KIND));
            int town = books.get(ofStep(tour, step, TOWN));
            return coinsOf(kind) * books.get(ofStep(tour, step, MANY)) * books.get(ofTown(town, DEARNESS));
        }

        /** Lets hours go by until the tour is over, and returns how many, or NONE if it takes too many. */
        int hoursToTheEnd(int tour) {
            for (int hours = 0; hours <= MOST_HOURS_AHEAD; hours++) {
                if (!isUnderWay(tour)) {
                    return hours;
                }
                passHours(1);
            }
            return NONE;
        }

        int costsOfTheRest(int tour) {
            int coins = 0;
            for (int step = books.get(ofTour(tour, BOOKED)); step < books.get(ofTour(tour, STEPS)); step++) {
                coins += priceOf(tour, step);
            }
            return coins;
        }

        int leftByStepsOf(int kind, int town, int day) {
            int left = mostOf(kind);
            for (int tour = 0; tour < MOST_TOURS; tour++) {
                int step = findStep(books, tour, kind, town, day);
                if (step != NONE && step < books.get(ofTour(tour, BOOKED))) {
                    left -= books.get(ofStep(tour, step, MANY));
                }
            }
            return left;
        }

        int cheapestTown(int kind, int day, int many) {
            int best = NONE;
            int least = MOST_DEARNESS + 1;
            for (int town = 0; town < TOWNS; town++) {
                int dearness = books.get(ofTown(town, DEARNESS));
                boolean isOpen = books.get(ofTown(town, IS_OPEN)) == 1;
                if (isOpen && books.get(ofLeft(kind, town, day)) >= many && dearness < least) {
                    best = town;
                    least = dearness;
                }
            }
            return best;
        }

        int tourInPlace(int place) {
            int tours = books.get(TOURS);
            for (int tour = 0; tour < tours; tour++) {
                int before = 0;
                for (int other = 0; other < tours; other++) {
                    before += comesBefore(other, tour) ? 1 : 0;
                }
                if (before == place) {
                    return tour;
                }
            }
            return NONE;
        }

        private boolean comesBefore(int tour, int other) {
            int booked = books.get(ofTour(tour, BOOKED));
            int otherBooked = books.get(ofTour(other, BOOKED));
            if (booked != otherBooked) {
                return booked > otherBooked;
            }
            int steps = books.get(ofTour(tour, STEPS));
            int otherSteps = books.get(ofTour(other, STEPS));
            return steps != otherSteps ? steps < otherSteps : tour < other;
        }

        int toursThatAre(int condition) {
            int count = 0;
            for (int tour = 0; tour < books.get(TOURS); tour++) {
                count += books.get(ofTour(tour, CONDITION)) == condition ? 1 : 0;
            }
            return count;
        }

        int sumOfTours(int what) {
            int sum = 0;
            for (int tour = 0; tour < books.get(TOURS); tour++) {
                sum += books.get(ofTour(tour, what));
            }
            return sum;
        }

        int openTowns() {
            int count = 0;
            for (int town = 0; town < TOWNS; town++) {
                count += books.get(ofTown(town, IS_OPEN));
            }
            return count;
        }
    }

    /** Returns the step of a tour of this kind, town and day, or NONE; a tour has no two of them. */
    private static int findStep(Books books, int tour, int kind, int town, int day) {
        for (int step = 0; step < books.get(ofTour(tour, STEPS)); step++) {
            boolean isSameKind = books.get(ofStep(tour, step, KIND)) == kind;
            boolean isSameTown = books.get(ofStep(tour, step, TOWN)) == town;
            if (isSameKind && isSameTown && books.get(ofStep(tour, step, DAY)) == day) {
                return step;
            }
        }
        return NONE;
    }

    /** Says whether a change may be made, in the order of the exceptions, and keeps the latest refusal. */
    private static final class Judge {
        private int latestReason = FINE;
        private int latestDetail = 0;

        int reason() {
            return latestReason;
        }

        int detail() {
            return latestDetail;
        }

        int refuse(int reason, int detail) {
            latestReason = reason;
            latestDetail = detail;
            return reason;
        }

        int planning(Books books, int limit) {
            if (!isWithin(limit, 0, MOST_LIMIT)) {
                return OUT_OF_RANGE;
            }
            return books.get(TOURS) < MOST_TOURS ? FINE : refuse(AS_MANY_AS_CAN_BE, MOST_TOURS);
        }

        int giving(Books books, int tour, int kind, int town, int day, int many) {
            if (!hasTour(books, tour) || !isBelow(town, TOWNS) || !isBelow(day, DAYS)) {
                return NO_SUCH_THING;
            }
            if (!isBelow(kind, KINDS) || !isWithin(many, 1, mostOf(kind))) {
                return OUT_OF_RANGE;
            }
            int condition = books.get(ofTour(tour, CONDITION));
            if (condition != PLANNED) {
                return refuse(NOT_AS_IT_MUST_BE, condition);
            }
            int same = findStep(books, tour, kind, town, day);
            if (same != NONE) {
                return refuse(STEP_ALREADY, same);
            }
            return books.get(ofTour(tour, STEPS)) < MOST_STEPS ? FINE : refuse(AS_MANY_AS_CAN_BE, MOST_STEPS);
        }

        int starting(Books books, int tour) {
            if (!hasTour(books, tour)) {
                return NO_SUCH_THING;
            }
            int condition = books.get(ofTour(tour, CONDITION));
            if (condition != PLANNED) {
                return refuse(NOT_AS_IT_MUST_BE, condition);
            }
            return books.get(ofTour(tour, STEPS)) > 0 ? FINE : refuse(NO_STEP, tour);
        }

        int callingBack(Books books, int tour) {
            if (!hasTour(books, tour)) {
                return NO_SUCH_THING;
            }
            int condition = books.get(ofTour(tour, CONDITION));
            return condition == RUNS ? FINE : refuse(NOT_AS_IT_MUST_BE, condition);
        }

        int shutting(Books books, int town, boolean isShut) {
            if (!isBelow(town, TOWNS)) {
                return NO_SUCH_THING;
            }
            int isOpen = books.get(ofTown(town, IS_OPEN));
            return isShut == (isOpen == 1) ? FINE : refuse(SO_ALREADY, isOpen);
        }

        int passing(int hours) {
            return isWithin(hours, 1, MOST_HOURS) ? FINE : OUT_OF_RANGE;
        }

        private static boolean hasTour(Books books, int tour) {
            return isBelow(tour, books.get(TOURS));
        }
    }

    /** The books as they were before each of the latest changes, in a ring. */
    private static final class History {
        private final Books[] ring = new Books[MOST_UNDOS];
        private int next = 0;
        private int kept = 0;

        History() {
            for (int i = 0; i < ring.length; i++) {
                ring[i] = new Books();
            }
        }

        int count() {
            return kept;
        }

        void forget() {
            kept = 0;
        }

        void keep(Books books) {
            if (isBelow(next, ring.length) && ring[next] != null) {
                ring[next].take(books);
            }
            next = next + 1 < MOST_UNDOS ? next + 1 : 0;
            kept = Math.min(kept + 1, MOST_UNDOS);
        }

        void takeBack(Books books) {
            next = next > 0 ? next - 1 : MOST_UNDOS - 1;
            kept = Math.max(kept - 1, 0);
            if (isBelow(next, ring.length) && ring[next] != null) {
                books.take(ring[next]);
            }
        }
    }

    /** The input, and where the reading of it stands: before the first sign that was not read yet. */
    private static final class Text {
        private final char[] signs = new char[MOST_INPUT];
        private int length = 0;
        private int at = 0;
        private int word = NONE;
        private int first = 0;
        private int town = 0;
        private int day = 0;
        private int many = 0;
        private int value = 0;

        int length() {
            return length;
        }

        void clear() {
            length = 0;
        }

        void append(char sign) {
            if (isBelow(length, signs.length)) {
                signs[length] = sign;
                length++;
            }
        }

        void rewind() {
            at = 0;
        }

        int word() {
            return word;
        }

        /** The number right behind the word. */
        int first() {
            return first;
        }

        int kind() {
            return word - SAY_HALL;
        }

        int town() {
            return town;
        }

        int day() {
            return day;
        }

        int many() {
            return many;
        }

        /** Returns the fault position, or NONE if the input is a text. */
        int findFault() {
            rewind();
            for (int command = 0; command < MOST_INPUT; command++) {
                if (!readCommand()) {
                    return at;
                }
                if (!readSign(';')) {
                    return at < length ? at : NONE;
                }
            }
            return at;
        }

        /** Reads a command; if there is none, the reading stands at its fault position then. */
        boolean readCommand() {
            if (!readWord()) {
                return false;
            }
            boolean isNumber = word == SAY_HOURS ? readNumber() : readDigit();
            first = value;
            boolean isStep = word == SAY_HALL || word == SAY_WAGONS || word == SAY_BEDS;
            return isNumber && (!isStep || readSign(' ') && readPlace() && readMany());
        }

        boolean readSign(char sign) {
            if (signAt(at) != sign) {
                return false;
            }
            at++;
            return true;
        }

        private boolean readWord() {
            int longest = 0;
            for (int i = 0; i < WORDS; i++) {
                int same = sameSigns(wordOf(i));
                if (same == wordOf(i).length()) {
                    word = i;
                    at += same;
                    return true;
                }
                longest = Math.max(longest, same);
            }
            at += longest;
            return false;
        }

        /** Returns how many signs from here on are those of a word, before the first other one. */
        private int sameSigns(String word) {
            for (int i = 0; i < word.length(); i++) {
                if (signAt(at + i) != word.charAt(i)) {
                    return i;
                }
            }
            return word.length();
        }

        private boolean readPlace() {
            boolean isTown = readDigit();
            town = value;
            boolean isPlace = isTown && readSign('/') && readNumber();
            day = value;
            return isPlace;
        }

        private boolean readMany() {
            if (word == SAY_HALL) {
                many = 1;
                return true;
            }
            boolean isMany = readSign('x') && (word == SAY_BEDS ? readNumber() : readDigit());
            many = value;
            return isMany;
        }

        private boolean readDigit() {
            if (!isDigit(signAt(at))) {
                return false;
            }
            value = signAt(at) - '0';
            at++;
            return true;
        }

        private boolean readNumber() {
            if (!readDigit()) {
                return false;
            }
            int tens = value;
            if (readDigit()) {
                value += tens * 10;
            }
            return true;
        }

        private static boolean isDigit(char sign) {
            return sign >= '0' && sign <= '9';
        }

        /** Returns a sign of the input, or behind its end the sign 0, which no text has. */
        private char signAt(int i) {
            return i >= 0 && i < length && i < signs.length ? signs[i] : (char) 0;
        }
    }

    private static String wordOf(int word) {
        switch (word) {
            case SAY_TOUR:
                return "tour ";
            case SAY_HALL:
                return "hall ";
            case SAY_WAGONS:
                return "wagons ";
            case SAY_BEDS:
                return "beds ";
            case SAY_START:
                return "start ";
            case SAY_BACK:
                return "back ";
            case SAY_SHUT:
                return "shut ";
            case SAY_OPEN:
                return "open ";
            default:
                return "hours ";
        }
    }

    /** The line about a tour. */
    private static final class Line {
        private final StringBuilder signs = new StringBuilder();

        int length() {
            return signs.length();
        }

        char signAt(int i) {
            return isBelow(i, signs.length()) ? signs.charAt(i) : (char) 0;
        }

        void write(Books books, int tour) {
            signs.setLength(0);
            signs.append(tour);
            signs.append(conditionSign(books.get(ofTour(tour, CONDITION))));
            int booked = books.get(ofTour(tour, BOOKED));
            for (int step = 0; step < books.get(ofTour(tour, STEPS)); step++) {
                writeStep(books, tour, step);
                if (step == booked - 1) {
                    signs.append('|');
                }
            }
        }

        private void writeStep(Books books, int tour, int step) {
            int kind = books.get(ofStep(tour, step, KIND));
            signs.append(' ');
            signs.append(kindSign(kind));
            signs.append(books.get(ofStep(tour, step, TOWN)));
            signs.append('/');
            signs.append(books.get(ofStep(tour, step, DAY)));
            if (kind != HALL) {
                signs.append('x');
                signs.append(books.get(ofStep(tour, step, MANY)));
            }
        }

        private static char conditionSign(int condition) {
            switch (condition) {
                case PLANNED:
                    return 'p';
                case RUNS:
                    return 'r';
                case GOES_BACK:
                    return 'b';
                case DONE:
                    return 'd';
                default:
                    return 'u';
            }
        }

        private static char kindSign(int kind) {
            switch (kind) {
                case HALL:
                    return 'h';
                case WAGONS:
                    return 'w';
                default:
                    return 'b';
            }
        }
    }
}
