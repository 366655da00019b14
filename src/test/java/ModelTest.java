import java.util.ArrayDeque;
import java.util.Random;
import java.util.function.LongSupplier;

/** Runs of 512 calls, drawn with fixed seeds, on the program and on PlainTheatre: each answer must be the same. */
public final class ModelTest {
    private static final int RUNS = 20000;
    private static final int CALLS = 512;
    private static final int[] ODD = {Integer.MIN_VALUE, -1, 0, 1, 2, 3, 4, 5, 6, 8, 12, 13, 19, 20, 41, Integer.MAX_VALUE};

    private final Random random;
    private final TheatreSaga program = new TheatreSaga();
    private final PlainTheatre model = new PlainTheatre();
    private final ArrayDeque<Character> typing = new ArrayDeque<>();
    private final int boldness;
    private int calls = 0;

    private ModelTest(long seed) {
        random = new Random(seed);
        boldness = random.nextInt(5);
    }

    public static void main(String[] args) {
        for (int run = 0; run < RUNS; run++) {
            ModelTest test = new ModelTest(run);
            while (test.calls < CALLS) {
                test.makeCall("run " + run + ", call " + test.calls + ": ");
            }
        }
        Check.end("ModelTest");
    }

    /** Compares a call, unless the object has had all its calls: what later ones answer is free. */
    private void same(String what, LongSupplier got, LongSupplier due) {
        if (calls < CALLS) {
            calls++;
            Check.same(what, Check.answer(got), Check.answer(due));
        }
    }

    /** Mostly a number below the bound, sometimes one from near or far outside. */
    private int draw(int bound) {
        return random.nextInt(25) == 0 ? ODD[random.nextInt(ODD.length)] : random.nextInt(bound);
    }

    private void makeCall(String where) {
        if (!typing.isEmpty() && random.nextInt(30) > 0) {
            char sign = typing.poll();
            same(where + "feed " + sign, () -> program.feed(sign), () -> model.feed(sign));
            if (typing.isEmpty()) {
                same(where + "read", program::read, model::read);
                same(where + "reason", () -> program.refusal(true), () -> model.refusal(true));
                same(where + "detail", () -> program.refusal(false), () -> model.refusal(false));
                same(where + "fault", program::faultPosition, model::faultPosition);
            }
        } else if (random.nextInt(3) > 0) {
            change(where);
        } else {
            look(where);
        }
    }

    private void change(String where) {
        switch (random.nextInt(14)) {
            case 0 -> {
                int limit = draw(5);
                same(where + "tour " + limit, () -> program.tour(limit), () -> model.tour(limit));
            }
            case 1, 2, 3, 4 -> giveStep(where);
            case 5 -> {
                int tour = draw(6);
                same(where + "start " + tour, () -> program.start(tour), () -> model.start(tour));
            }
            case 6 -> {
                int tour = draw(6);
                boolean isMade = random.nextInt(3) == 0;
                same(where + "back " + tour, () -> isMade ? program.back(tour) : 0, () -> isMade ? model.back(tour) : 0);
            }
            case 7 -> {
                int town = draw(5);
                boolean isShut = random.nextInt(3) == 0;
                same(where + "shut " + town + isShut, () -> program.shut(town, isShut),
                    () -> model.shut(town, isShut));
            }
            case 8 -> {
                int town = draw(5);
                int dearness = draw(6);
                same(where + "dear " + town + " " + dearness, () -> program.dear(town, dearness),
                    () -> model.dear(town, dearness));
            }
            case 9, 10, 11 -> {
                int hours = random.nextInt(9) == 0 ? draw(42) : draw(3);
                same(where + "pass " + hours, () -> program.pass(hours), () -> model.pass(hours));
            }
            case 12 -> {
                int undos = random.nextInt(8) == 0 ? 9 : random.nextInt(2);
                for (int i = 0; i < undos; i++) {
                    same(where + "undo", program::undo, model::undo);
                }
            }
            default -> changeSeldom(where);
        }
        if (random.nextInt(4) == 0) {
            same(where + "reason", () -> program.refusal(true), () -> model.refusal(true));
            same(where + "detail", () -> program.refusal(false), () -> model.refusal(false));
        }
    }

    private void changeSeldom(String where) {
        switch (random.nextInt(6)) {
            case 0 -> same(where + "saveSnapshot", program::saveSnapshot, model::saveSnapshot);
            case 1 -> {
                if (random.nextInt(3) == 0) {
                    same(where + "restoreSnapshot", program::restoreSnapshot, model::restoreSnapshot);
                }
            }
            case 2 -> lookAtPart(where);
            default -> typeText();
        }
    }

    private void giveStep(String where) {
        int tour = draw(6);
        int kind = draw(3);
        int town = draw(5);
        int day = random.nextInt(6) == 0 ? draw(20) : random.nextInt(3);
        int many = kind == 0 ? draw(2) : draw(kind == 1 ? 5 : 13);
        same(where + "step " + tour + " " + kind + " " + town + " " + day + " " + many,
            () -> program.step(tour, kind, town, day, many), () -> model.step(tour, kind, town, day, many));
    }

    private void typeText() {
        StringBuilder text = new StringBuilder();
        int commands = 1 + random.nextInt(5);
        for (int i = 0; i < commands; i++) {
            text.append(i == 0 ? "" : ";").append(command());
        }
        if (random.nextInt(3) == 0) {
            int at = random.nextInt(text.length());
            switch (random.nextInt(3)) {
                case 0 -> text.deleteCharAt(at);
                case 1 -> text.setLength(at);
                default -> text.setCharAt(at, "0123456789 ;/xthwbsoX\u0100\u0000".charAt(random.nextInt(23)));
            }
        }
        for (char sign : text.toString().toCharArray()) {
            typing.add(sign);
        }
    }

    private String command() {
        String tour = Integer.toString(random.nextInt(boldness == 0 ? 10 : 6));
        String place = " " + random.nextInt(boldness == 0 ? 10 : 5) + "/" + random.nextInt(boldness == 0 ? 100 : 20);
        return switch (random.nextInt(12)) {
            case 0, 1 -> "tour " + random.nextInt(6);
            case 2 -> "hall " + tour + place;
            case 3, 4 -> "wagons " + tour + place + "x" + random.nextInt(5);
            case 5, 6 -> "beds " + tour + place + "x" + (random.nextInt(9) == 0 ? "0" : "") + random.nextInt(9);
            case 7 -> "start " + tour;
            case 8 -> "back " + tour;
            case 9 -> "shut " + random.nextInt(6);
            case 10 -> "open " + random.nextInt(6);
            default -> "hours " + (random.nextInt(9) == 0 ? random.nextInt(100) : 1 + random.nextInt(9));
        };
    }

    private void look(String where) {
        int tour = draw(6);
        int kind = draw(3);
        int town = draw(5);
        int day = random.nextInt(3) == 0 ? draw(20) : random.nextInt(3);
        int what = draw(20);
        switch (random.nextInt(13)) {
            case 0 -> same(where + "tourOf", () -> program.tourOf(tour, what), () -> model.tourOf(tour, what));
            case 1 -> same(where + "stepOf", () -> program.stepOf(tour, what, kind),
                () -> model.stepOf(tour, what, kind));
            case 2 -> same(where + "townOf", () -> program.townOf(town, what), () -> model.townOf(town, what));
            case 3 -> same(where + "left", () -> program.left(kind, town, day), () -> model.left(kind, town, day));
            case 4 -> same(where + "leftAgain", () -> program.leftAgain(kind, town, day),
                () -> model.left(kind, town, day));
            case 5 -> same(where + "faultOf", () -> program.faultOf(tour), () -> model.faultOf(tour));
            case 6 -> same(where + "endsIn", () -> program.endsIn(tour), () -> model.endsIn(tour));
            case 7 -> same(where + "costs", () -> program.costs(tour), () -> model.costs(tour));
            case 8 -> same(where + "cheapest", () -> program.cheapest(kind, day, what),
                () -> model.cheapest(kind, day, what));
            case 9 -> same(where + "ranked", () -> program.ranked(tour), () -> model.ranked(tour));
            case 10 -> same(where + "line", () -> program.line(tour), () -> model.line(tour));
            case 11 -> same(where + "character", () -> program.character(what), () -> model.character(what));
            default -> same(where + "number", () -> program.number(what), () -> model.number(what));
        }
    }

    private void lookAtPart(String where) {
        switch (random.nextInt(4)) {
            case 0 -> lookAtTour(where, random.nextInt(6));
            case 1 -> lookAtPlaces(where, random.nextInt(3), random.nextInt(5));
            case 2 -> lookAtTowns(where);
            default -> lookAtAccounts(where);
        }
    }

    private void lookAtPlaces(String where, int kind, int town) {
        for (int i = 0; i < 20; i++) {
            int day = i;
            same(where + "left " + i, () -> program.left(kind, town, day), () -> model.left(kind, town, day));
            same(where + "leftAgain " + i, () -> program.leftAgain(kind, town, day),
                () -> model.left(kind, town, day));
        }
    }

    private void lookAtTowns(String where) {
        for (int i = 0; i < 20; i++) {
            int place = i;
            same(where + "townOf " + i, () -> program.townOf(place / 4, place % 4),
                () -> model.townOf(place / 4, place % 4));
        }
    }

    private void lookAtAccounts(String where) {
        for (int i = -1; i < 19; i++) {
            int what = i;
            same(where + "number " + what, () -> program.number(what), () -> model.number(what));
        }
        same(where + "coinsAgain", program::coinsAgain, () -> model.number(7));
        same(where + "meanSteps", () -> Double.doubleToLongBits(program.meanSteps()),
            () -> Double.doubleToLongBits(model.meanSteps()));
        same(where + "failedShare", () -> Float.floatToIntBits(program.failedShare()),
            () -> Float.floatToIntBits(model.failedShare()));
    }

    private void lookAtTour(String where, int tour) {
        for (int i = 0; i < 9; i++) {
            int what = i;
            same(where + "tourOf " + tour + " " + i, () -> program.tourOf(tour, what),
                () -> model.tourOf(tour, what));
        }
        for (int i = 0; i < 40; i++) {
            int what = i;
            same(where + "stepOf " + tour + " " + i, () -> program.stepOf(tour, what / 5, what % 5),
                () -> model.stepOf(tour, what / 5, what % 5));
        }
        same(where + "line " + tour, () -> program.line(tour), () -> model.line(tour));
        for (int i = -1; i < 80; i++) {
            int at = i;
            same(where + "character " + tour + " " + i, () -> program.character(at), () -> model.character(at));
        }
        same(where + "ranked " + tour, () -> program.ranked(tour), () -> model.ranked(tour));
        same(where + "endsIn " + tour, () -> program.endsIn(tour), () -> model.endsIn(tour));
        same(where + "faultOf " + tour, () -> program.faultOf(tour), () -> model.faultOf(tour));
        same(where + "costs " + tour, () -> program.costs(tour), () -> model.costs(tour));
    }
}
