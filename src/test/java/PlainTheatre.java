import java.util.ArrayList;
import java.util.Comparator;
import java.util.List;
import java.util.NoSuchElementException;
import java.util.regex.Matcher;
import java.util.regex.Pattern;

/**
 * The document once more, written in another way: objects that are copied whole, sums made anew from the
 * steps, and texts read by a regular expression. ModelTest compares the program with it.
 */
final class PlainTheatre {
    private static final int[] CAPACITY = {1, 4, 12};
    private static final int[] COINS = {6, 2, 1};
    private static final String PLACE = "[0-9]/[0-9][0-9]?";
    private static final String COMMAND = "(?:tour [0-9]|hall [0-9] " + PLACE + "|wagons [0-9] " + PLACE + "x[0-9]"
        + "|beds [0-9] " + PLACE + "x[0-9][0-9]?|start [0-9]|back [0-9]|shut [0-9]|open [0-9]|hours [0-9][0-9]?)";
    private static final Pattern TEXT = Pattern.compile(COMMAND + "(?:;" + COMMAND + ")*");

    private static final class Step {
        int kind, town, day, many, paid;
        boolean isBooked;

        Step copy() {
            Step copy = new Step();
            copy.kind = kind;
            copy.town = town;
            copy.day = day;
            copy.many = many;
            copy.paid = paid;
            copy.isBooked = isBooked;
            return copy;
        }
    }

    private static final class Tour {
        int limit, failed, cause, paid, cameBack, brought;
        char state = 'p';
        List<Step> steps = new ArrayList<>();

        Tour copy() {
            Tour copy = new Tour();
            copy.limit = limit;
            copy.failed = failed;
            copy.cause = cause;
            copy.paid = paid;
            copy.cameBack = cameBack;
            copy.brought = brought;
            copy.state = state;
            for (Step step : steps) {
                copy.steps.add(step.copy());
            }
            return copy;
        }

        int booked() {
            return (int) steps.stream().filter(step -> step.isBooked).count();
        }

        int how() {
            return "prbdu".indexOf(state);
        }
    }

    private static final class World {
        int hour, coins = 100, lost, tries, failed;
        List<Tour> tours = new ArrayList<>();
        boolean[] shut = new boolean[5];
        int[] dear = {2, 2, 2, 2, 2};
        int[] paidIn = new int[5];

        World copy() {
            World copy = new World();
            copy.hour = hour;
            copy.coins = coins;
            copy.lost = lost;
            copy.tries = tries;
            copy.failed = failed;
            for (Tour tour : tours) {
                copy.tours.add(tour.copy());
            }
            copy.shut = shut.clone();
            copy.dear = dear.clone();
            copy.paidIn = paidIn.clone();
            return copy;
        }
    }

    private World world = new World();
    private World saved;
    private final List<World> past = new ArrayList<>();
    private String input = "";
    private String written = "";
    private int faultKept = -1;
    private int reason;
    private int detail;

    private void remember(World before) {
        past.add(before);
        if (past.size() > 8) {
            past.remove(0);
        }
    }

    private UnsupportedOperationException refuse(int why, int what) {
        reason = why;
        detail = what;
        return new UnsupportedOperationException();
    }

    private static void index(boolean isThere) {
        if (!isThere) {
            throw new IndexOutOfBoundsException();
        }
    }

    private static void range(boolean isIn) {
        if (!isIn) {
            throw new IllegalArgumentException();
        }
    }

    private Tour get(int tour) {
        index(tour >= 0 && tour < world.tours.size());
        return world.tours.get(tour);
    }

    private static boolean isTown(int town) {
        return town >= 0 && town < 5;
    }

    private static boolean isDay(int day) {
        return day >= 0 && day < 20;
    }

    private static boolean isKind(int kind) {
        return kind >= 0 && kind < 3;
    }

    int tour(int limit) {
        range(limit >= 0 && limit <= 4);
        if (world.tours.size() == 6) {
            throw refuse(1, 6);
        }
        remember(world.copy());
        Tour made = new Tour();
        made.limit = limit;
        world.tours.add(made);
        return world.tours.size() - 1;
    }

    int step(int tour, int kind, int town, int day, int many) {
        Tour told = get(tour);
        index(isTown(town) && isDay(day));
        range(isKind(kind));
        range(many >= 1 && many <= CAPACITY[kind]);
        if (told.state != 'p') {
            throw refuse(2, told.how());
        }
        for (int i = 0; i < told.steps.size(); i++) {
            Step other = told.steps.get(i);
            if (other.kind == kind && other.town == town && other.day == day) {
                throw refuse(5, i);
            }
        }
        if (told.steps.size() == 8) {
            throw refuse(1, 8);
        }
        remember(world.copy());
        Step made = new Step();
        made.kind = kind;
        made.town = town;
        made.day = day;
        made.many = many;
        told.steps.add(made);
        return told.steps.size();
    }

    private int count(char state) {
        return (int) world.tours.stream().filter(tour -> tour.state == state).count();
    }

    int start(int tour) {
        Tour told = get(tour);
        if (told.state != 'p') {
            throw refuse(2, told.how());
        }
        if (told.steps.isEmpty()) {
            throw refuse(3, tour);
        }
        remember(world.copy());
        told.state = 'r';
        return count('r');
    }

    int back(int tour) {
        Tour told = get(tour);
        if (told.state != 'r') {
            throw refuse(2, told.how());
        }
        remember(world.copy());
        told.cause = 4;
        goBack(told);
        return told.booked();
    }

    private static void goBack(Tour tour) {
        tour.failed = 0;
        tour.state = tour.booked() == 0 ? 'u' : 'b';
    }

    int tourOf(int tour, int what) {
        Tour told = get(tour);
        range(what >= 0 && what <= 8);
        return new int[] {told.how(), told.limit, told.steps.size(), told.booked(), told.failed, told.cause,
            told.paid, told.cameBack, told.brought}[what];
    }

    int stepOf(int tour, int step, int what) {
        Tour told = get(tour);
        index(step >= 0 && step < told.steps.size());
        range(what >= 0 && what <= 4);
        Step found = told.steps.get(step);
        return new int[] {found.kind, found.town, found.day, found.many, found.isBooked ? found.paid : 0}[what];
    }

    private int open() {
        int open = 0;
        for (boolean isShut : world.shut) {
            open += isShut ? 0 : 1;
        }
        return open;
    }

    int shut(int town, boolean isShut) {
        index(isTown(town));
        if (world.shut[town] == isShut) {
            throw refuse(4, isShut ? 0 : 1);
        }
        remember(world.copy());
        world.shut[town] = isShut;
        return open();
    }

    int dear(int town, int dearness) {
        index(isTown(town));
        range(dearness >= 1 && dearness <= 5);
        remember(world.copy());
        int before = world.dear[town];
        world.dear[town] = dearness;
        return before;
    }

    int townOf(int town, int what) {
        index(isTown(town));
        range(what >= 0 && what <= 3);
        int booked = 0;
        for (Tour tour : world.tours) {
            booked += (int) tour.steps.stream().filter(step -> step.isBooked && step.town == town).count();
        }
        return new int[] {world.shut[town] ? 0 : 1, world.dear[town], booked, world.paidIn[town]}[what];
    }

    int pass(int hours) {
        range(hours >= 1 && hours <= 40);
        remember(world.copy());
        int over = 0;
        for (int i = 0; i < hours; i++) {
            over += hour(world);
        }
        return over;
    }

    private static int hour(World world) {
        int over = 0;
        for (Tour tour : world.tours) {
            if (tour.state == 'r' || tour.state == 'b') {
                attempt(world, tour);
                over += tour.state == 'd' || tour.state == 'u' ? 1 : 0;
            }
        }
        world.hour++;
        return over;
    }

    private static void attempt(World world, Tour tour) {
        world.tries++;
        int fault = fault(world, tour);
        if (fault > 0) {
            world.failed++;
            tour.failed++;
            tour.cause = fault;
            if (tour.state == 'r' && tour.failed == tour.limit + 1) {
                goBack(tour);
            }
            return;
        }
        tour.failed = 0;
        Step step = tour.state == 'r' ? tour.steps.get(tour.booked()) : tour.steps.get(tour.booked() - 1);
        if (tour.state == 'r') {
            step.paid = price(world, step);
            step.isBooked = true;
            world.coins -= step.paid;
            tour.paid += step.paid;
            world.paidIn[step.town] += step.paid;
            if (tour.booked() == tour.steps.size()) {
                tour.state = 'd';
                tour.brought = 10 * (int) tour.steps.stream().filter(other -> other.kind == 0).count();
                gain(world, tour.brought);
            }
        } else {
            step.isBooked = false;
            tour.cameBack += step.paid / 2;
            gain(world, step.paid / 2);
            if (tour.booked() == 0) {
                tour.state = 'u';
            }
        }
    }

    private static void gain(World world, int coins) {
        world.coins += coins;
        if (world.coins > 9999) {
            world.lost += world.coins - 9999;
            world.coins = 9999;
        }
    }

    private static int price(World world, Step step) {
        return COINS[step.kind] * step.many * world.dear[step.town];
    }

    private static int fault(World world, Tour tour) {
        if (tour.state == 'b') {
            return world.shut[tour.steps.get(tour.booked() - 1).town] ? 1 : 0;
        }
        Step step = tour.steps.get(tour.booked());
        if (world.shut[step.town]) {
            return 1;
        }
        if (leftIn(world, step.kind, step.town, step.day) < step.many) {
            return 2;
        }
        return world.coins < price(world, step) ? 3 : 0;
    }

    private static int leftIn(World world, int kind, int town, int day) {
        int left = CAPACITY[kind];
        for (Tour tour : world.tours) {
            for (Step step : tour.steps) {
                boolean isSame = step.kind == kind && step.town == town && step.day == day;
                left -= isSame && step.isBooked ? step.many : 0;
            }
        }
        return left;
    }

    int left(int kind, int town, int day) {
        index(isKind(kind) && isTown(town) && isDay(day));
        return leftIn(world, kind, town, day);
    }

    int faultOf(int tour) {
        Tour told = get(tour);
        if (told.state != 'r' && told.state != 'b') {
            throw new NoSuchElementException();
        }
        return fault(world, told);
    }

    int endsIn(int tour) {
        Tour told = get(tour);
        if (told.state == 'd' || told.state == 'u') {
            return 0;
        }
        World ahead = world.copy();
        for (int hours = 1; told.state != 'p' && hours <= 60; hours++) {
            hour(ahead);
            char state = ahead.tours.get(tour).state;
            if (state == 'd' || state == 'u') {
                return hours;
            }
        }
        throw new NoSuchElementException();
    }

    int costs(int tour) {
        return get(tour).steps.stream().filter(step -> !step.isBooked).mapToInt(step -> price(world, step)).sum();
    }

    int cheapest(int kind, int day, int many) {
        index(isKind(kind) && isDay(day));
        range(many >= 1 && many <= 12);
        for (int dearness = 1; dearness <= 5; dearness++) {
            for (int town = 0; town < 5; town++) {
                boolean isOpen = world.dear[town] == dearness && !world.shut[town];
                if (isOpen && leftIn(world, kind, town, day) >= many) {
                    return town;
                }
            }
        }
        throw new NoSuchElementException();
    }

    int ranked(int place) {
        List<Tour> order = new ArrayList<>(world.tours);
        order.sort(Comparator.<Tour>comparingInt(tour -> -tour.booked()).thenComparingInt(tour -> tour.steps.size()));
        if (place < 0 || place >= order.size()) {
            throw new NoSuchElementException();
        }
        return world.tours.indexOf(order.get(place));
    }

    int line(int tour) {
        Tour told = get(tour);
        StringBuilder made = new StringBuilder().append(tour).append(told.state);
        for (Step step : told.steps) {
            made.append(String.format(" %c%d/%d", "hwb".charAt(step.kind), step.town, step.day));
            made.append(step.kind == 0 ? "" : "x" + step.many);
            made.append(told.steps.indexOf(step) == told.booked() - 1 ? "|" : "");
        }
        written = made.toString();
        return written.length();
    }

    char character(int i) {
        index(i >= 0 && i < written.length());
        return written.charAt(i);
    }

    private int sum(java.util.function.ToIntFunction<Tour> part) {
        return world.tours.stream().mapToInt(part).sum();
    }

    int number(int what) {
        range(what >= 0 && what <= 17);
        return new int[] {world.hour, world.tours.size(), count('p'), count('r'), count('b'), count('d'), count('u'),
            world.coins, sum(tour -> tour.paid), sum(tour -> tour.cameBack), sum(tour -> tour.brought), world.lost,
            world.tries, world.failed, open(), sum(Tour::booked), past.size(), input.length()}[what];
    }

    double meanSteps() {
        if (world.tours.isEmpty()) {
            throw new ArithmeticException();
        }
        return (double) sum(tour -> tour.steps.size()) / world.tours.size();
    }

    float failedShare() {
        if (world.tries == 0) {
            throw new ArithmeticException();
        }
        return (float) world.failed / world.tries;
    }

    int feed(char character) {
        if (input.length() == 60) {
            throw new IllegalStateException();
        }
        input += character;
        return input.length();
    }

    int read() {
        String told = input;
        input = "";
        if (!TEXT.matcher(told).matches()) {
            faultKept = faultIn(told);
            throw new IllegalArgumentException();
        }
        World before = world.copy();
        List<World> pastBefore = new ArrayList<>(past);
        String[] commands = told.split(";");
        for (int i = 0; i < commands.length; i++) {
            String answer = carryOut(commands[i]);
            if (!answer.isEmpty()) {
                world = before;
                restore(pastBefore);
                if (!answer.equals("refused")) {
                    throw refuse(20, i);
                }
                throw new UnsupportedOperationException();
            }
        }
        restore(pastBefore);
        remember(before);
        return commands.length;
    }

    private void restore(List<World> pastBefore) {
        past.clear();
        past.addAll(pastBefore);
    }

    /** The length of the longest beginning that some text goes on from: each beginning of it is tried. */
    private static int faultIn(String told) {
        for (int length = 1; length <= told.length(); length++) {
            Matcher matcher = TEXT.matcher(told.substring(0, length));
            if (!matcher.matches() && !matcher.hitEnd()) {
                return length - 1;
            }
        }
        return told.length();
    }

    private String carryOut(String command) {
        String[] words = command.split("[ /x]");
        int[] n = new int[words.length];
        for (int i = 1; i < words.length; i++) {
            n[i] = Integer.parseInt(words[i]);
        }
        try {
            switch (words[0]) {
                case "tour" -> tour(n[1]);
                case "hall" -> step(n[1], 0, n[2], n[3], 1);
                case "wagons" -> step(n[1], 1, n[2], n[3], n[4]);
                case "beds" -> step(n[1], 2, n[2], n[3], n[4]);
                case "start" -> start(n[1]);
                case "back" -> back(n[1]);
                case "shut" -> shut(n[1], true);
                case "open" -> shut(n[1], false);
                default -> pass(n[1]);
            }
            return "";
        } catch (UnsupportedOperationException e) {
            return "refused";
        } catch (RuntimeException e) {
            return "thrown";
        }
    }

    int faultPosition() {
        if (faultKept < 0) {
            throw new NoSuchElementException();
        }
        return faultKept;
    }

    int refusal(boolean isReason) {
        if (reason == 0) {
            throw new NoSuchElementException();
        }
        return isReason ? reason : detail;
    }

    int undo() {
        if (past.isEmpty()) {
            throw new IllegalStateException();
        }
        world = past.remove(past.size() - 1);
        return past.size();
    }

    int saveSnapshot() {
        saved = world.copy();
        return world.tours.size();
    }

    int restoreSnapshot() {
        if (saved == null) {
            throw new IllegalStateException();
        }
        world = saved.copy();
        past.clear();
        return world.tours.size();
    }
}
