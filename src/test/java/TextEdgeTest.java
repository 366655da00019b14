import java.util.List;
import java.util.function.Consumer;

/** The promises 25 to 31 and "Text", sentence by sentence: texts, what is kept, undo and snapshots. */
public final class TextEdgeTest {
    /** A text of each command, the longest of its kind, which a new object carries out behind "tour 0". */
    private static final String[] COMMANDS = {"tour 4", "hall 0 4/19", "wagons 0 4/19x4", "beds 0 4/19x12", "start 0",
        "back 0", "shut 4", "open 4", "hours 40"};
    private static final String WRONG = "!\u0000Z:\u00e9\u0661\uffff";

    private TextEdgeTest() {
    }

    public static void main(String[] args) {
        promise25();
        promise25AnySign();
        promise26EmptyAfterwards();
        promise26AllOrNone();
        promise26HowManyCommands();
        promise26AsTheMethods();
        sixtyCharacters();
        digitsAndNumbers();
        commandsOutOfRange();
        commandsRefused();
        laterCommandRefused();
        promise27None();
        promise27WrongSign();
        promise27EndsTooEarly();
        promise27OneSignTooMuch();
        promise27Words();
        promise27IsKept();
        promise28None();
        promise28Latest();
        promise28Kept();
        promise29();
        promise29EachChange();
        promise29Eight();
        promise30();
        promise31();
        promise31NothingCanBeUndone();
        promise31Whole();
        Check.end("TextEdgeTest");
    }

    private static Consumer<TheatreSaga> fed(int length) {
        return x -> {
            Edge.busy(x);
            for (int i = 2; i < length; i++) {
                x.feed('x');
            }
        };
    }

    // ---- Promise 25: feed

    /** "Throws IllegalStateException if the input has 60 characters." */
    private static void promise25() {
        TheatreSaga x = new TheatreSaga();
        for (int length = 1; length <= 60; length++) {
            Check.same("the length of the input", x.feed('t'), length);
            Check.same("its characters", x.number(17), length);
        }
        Check.refuses("a 61st", () -> x.feed('t'), Edge.STATE);
        Check.refuses("again", () -> x.feed(';'), Edge.STATE);
        Check.answers("59 have room for one", () -> Edge.made(fed(59)).feed('x'), 60);
        Edge.leaves("60 have none", fed(60), Edge.STATE, y -> y.feed('x'));
    }

    /** Any character is taken; which ones a text may have, read() says. */
    private static void promise25AnySign() {
        TheatreSaga x = new TheatreSaga();
        char[] signs = {0, 1, ' ', ';', 127, 128, 255, 256, '\ud800', '\uffff'};
        for (int i = 0; i < signs.length; i++) {
            Check.same("the length of the input", x.feed(signs[i]), i + 1);
        }
        Check.refuses("no text", x::read, Edge.ARGUMENT);
    }

    // ---- Promise 26: read

    /** "The input is empty afterwards, whatever happens." */
    private static void promise26EmptyAfterwards() {
        TheatreSaga x = new TheatreSaga();
        String[] texts = {"", "tour 0", "tour 5", "tour 0;", "x"};
        for (String text : texts) {
            Edge.type(x, text);
            Check.answer(x::read);
            Check.same("empty behind " + text, x.number(17), 0);
            Check.refuses("the empty input is no text", x::read, Edge.ARGUMENT);
            Check.same("its fault position", x.faultPosition(), 0);
        }
        Check.same("only the text in between was carried out", x.number(1), 1);
        for (int i = 0; i < 60; i++) {
            x.feed('x');
        }
        Check.answer(x::read);
        Check.same("there is room again", x.feed('x'), 1);
    }

    /** "Carries its commands out, all of them or none", as one change. */
    private static void promise26AllOrNone() {
        Consumer<TheatreSaga> past = x -> {
            Edge.busy(x);
            Check.answer(x::read);
        };
        String[] texts = {"hours 9;start 0;tour 1;tour 1", "open 4;hours 3;open 4", "back 1;hours 5;hours 0",
            "beds 0 2/2x2;start 0;hours 40;beds 0 2/2x3", "shut 2;open 2;tour 4;start 5", "hours 1;tour 6"};
        int[][] due = {{1, 6}, {4, 1}, {20, 2}, {2, 3}, {3, 5}, {20, 1}};
        for (int i = 0; i < texts.length; i++) {
            Edge.isTextRefused(texts[i], past, due[i][0], due[i][1]);
        }
        TheatreSaga x = new TheatreSaga();
        Check.same("all", Edge.tell(x, "tour 0;hall 0 0/0;start 0;hours 1"), 4);
        Check.same("done", x.tourOf(0, 0), 3);
        Check.same("one change", x.number(16), 1);
        x.undo();
        Check.same("all is undone", x.number(1) + x.number(0), 0);
    }

    /** "Returns the number of commands." */
    private static void promise26HowManyCommands() {
        StringBuilder text = new StringBuilder("shut 0");
        for (int commands = 1; commands <= 8; commands++) {
            TheatreSaga x = new TheatreSaga();
            Check.same("the number of commands", Edge.tell(x, text.toString()), commands);
            Check.same("open, or shut", x.townOf(0, 0), commands % 2 == 0 ? 1 : 0);
            Check.same("one change", x.number(16), 1);
            text.append(commands % 2 == 0 ? ";shut 0" : ";open 0");
        }
    }

    /** The commands do what the methods do. */
    private static void promise26AsTheMethods() {
        TheatreSaga x = new TheatreSaga();
        TheatreSaga y = new TheatreSaga();
        Edge.tell(x, "tour 3;hall 0 4/19;wagons 0 0/0x4;beds 0 1/9x12");
        Edge.plan(y, 3, Edge.hall(4, 19), Edge.wagons(0, 0, 4), Edge.beds(1, 9, 12));
        Check.same("tour, hall, wagons, beds", Edge.lineOf(x, 0), Edge.lineOf(y, 0));
        Check.same("the limit", x.tourOf(0, 1), 3);
        Edge.tell(x, "start 0;hours 2");
        Check.same("start, hours", Edge.lineOf(x, 0), "0r h4/19 w0/0x4| b1/9x12");
        Check.same("the hour", x.number(0), 2);
        Edge.tell(x, "shut 0;back 0;hours 3");
        Check.same("shut, back", Edge.lineOf(x, 0), "0b h4/19 w0/0x4| b1/9x12");
        Check.same("the cause", x.tourOf(0, 5), 1);
        Edge.tell(x, "open 0;hours 40");
        Check.same("open", Edge.lineOf(x, 0), "0u h4/19 w0/0x4 b1/9x12");
        Check.same("the hour", x.number(0), 45);
    }

    // ---- Text

    /** "The input holds at most 60 characters": a text may have as many. */
    private static void sixtyCharacters() {
        String text = "tour 0;tour 1;tour 2;tour 3;tour 4;tour 0;shut 4;hall 5 0/19";
        Check.same("the length of this text", text.length(), 60);
        TheatreSaga x = new TheatreSaga();
        Edge.type(x, text);
        Check.refuses("one more", () -> x.feed(';'), Edge.STATE);
        Check.same("it is read though", x.read(), 8);
        Check.same("to its end", Edge.lineOf(x, 5), "5p h0/19");
        Edge.isNoText("tour 0;tour 1;tour 2;tour 3;tour 4;tour 0;shut 4;hall 5 0/1;", Edge::nothing, 60);
        Edge.isNoText("tour 0;tour 1;tour 2;tour 3;tour 4;tour 0;shut 4;open 4;tour", Edge::nothing, 60);
        Edge.isNoText("tour 0;tour 1;tour 2;tour 3;tour 4;tour 0;shut 4;hall 5 0/1x", Edge::nothing, 59);
        Edge.isTextRefused("tour 0;tour 1;tour 2;tour 3;tour 4;tour 0;shut 4;hall 5 0/20", Edge::nothing, 20, 7);
    }

    /** "number: one or two digits", and a digit is one; a first digit 0 is as good as none. */
    private static void digitsAndNumbers() {
        TheatreSaga x = new TheatreSaga();
        Edge.tell(x, "tour 0;hall 0 0/0;hall 0 0/01;hall 0 0/9;hall 0 0/10");
        Edge.tell(x, "hall 0 0/19;beds 0 1/09x01;beds 0 1/8x9;beds 0 1/00x10");
        Check.same("days and numbers", Edge.lineOf(x, 0), "0p h0/0 h0/1 h0/9 h0/10 h0/19 b1/9x1 b1/8x9 b1/0x10");
        int[] due = {1, 10, 19, 59};
        String[] texts = {"hours 01", "hours 9", "hours 09", "hours 40"};
        for (int i = 0; i < texts.length; i++) {
            Edge.tell(x, texts[i]);
            Check.same("the hour behind " + texts[i], x.number(0), due[i]);
        }
        String[] threeDigits = {"hours 001", "hours 100", "tour 0;hall 0 0/001", "tour 0;beds 0 0/0x001"};
        int[] faults = {8, 8, 18, 20};
        for (int i = 0; i < threeDigits.length; i++) {
            Edge.isNoText(threeDigits[i], Edge::nothing, faults[i]);
        }
        String[] twoDigits = {"tour 00", "start 00", "back 00", "shut 00", "open 00", "hall 00 0/0", "hall 0 00/0",
            "wagons 0 0/0x01", "wagons 00 0/0x1", "beds 00 0/0x1"};
        int[] second = {6, 7, 6, 6, 6, 6, 8, 14, 8, 6};
        for (int i = 0; i < twoDigits.length; i++) {
            Edge.isNoText(twoDigits[i], Edge::nothing, second[i]);
        }
    }

    /** Two planned tours: tour 0 has a step, tour 1 has none. */
    private static void planned(TheatreSaga x) {
        x.tour(0);
        x.step(0, 2, 0, 0, 1);
        x.tour(0);
    }

    /** "... or for the reason 20, if this method would throw another exception": just inside and just outside. */
    private static void commandsOutOfRange() {
        String[] inside = {"tour 0", "tour 4", "hall 0 0/0", "hall 1 4/19", "wagons 0 0/0x1", "wagons 1 4/19x4",
            "beds 1 0/0x1", "beds 1 4/19x12", "start 0", "shut 0", "shut 4", "hours 1", "hours 40", "hours 01"};
        for (String text : inside) {
            TheatreSaga x = Edge.made(TextEdgeTest::planned);
            Check.answers(text, () -> Edge.tell(x, text), 1);
        }
        String[] outside = {"tour 5", "tour 9", "hall 2 0/0", "hall 9 0/0", "hall 0 5/0", "hall 0 9/0", "hall 0 0/20",
            "hall 0 0/99", "wagons 2 0/0x1", "wagons 0 5/0x1", "wagons 0 0/20x1", "wagons 0 0/0x0", "wagons 0 0/0x5",
            "wagons 0 0/0x9", "beds 2 0/0x1", "beds 0 5/0x1", "beds 0 0/20x1", "beds 0 1/0x0", "beds 0 1/0x00",
            "beds 0 1/0x13", "beds 0 1/0x99", "start 2", "start 9", "back 2", "back 9", "shut 5", "shut 9", "open 5",
            "open 9", "hours 0", "hours 00", "hours 41", "hours 99"};
        for (String text : outside) {
            Edge.isTextRefused(text, TextEdgeTest::planned, 20, 0);
        }
        Consumer<TheatreSaga> six = x -> {
            Edge.full(x);
            x.dear(0, 1);
        };
        Edge.isTextRefused("tour 5", six, 20, 0);
        Edge.isTextRefused("tour 4", six, 1, 6);
        Edge.isTextRefused("start 6", six, 20, 0);
        Edge.isTextRefused("beds 3 5/0x1", six, 20, 0);
        Edge.isTextRefused("wagons 3 0/0x0", six, 20, 0);
        Edge.isTextRefused("wagons 3 0/0x1", six, 2, 3);
    }

    /** "A command is refused for the reason for which the method for it is refused." */
    private static void commandsRefused() {
        Edge.isTextRefused("tour 0", Edge::full, 1, 6);
        Edge.isTextRefused("beds 5 2/2x1", Edge::full, 1, 8);
        Edge.isTextRefused("hall 5 4/19", Edge::full, 5, 7);
        Edge.isTextRefused("wagons 5 1/0x1", Edge::full, 5, 3);
        Edge.isTextRefused("beds 5 0/0x12", Edge::full, 5, 4);
        Edge.isTextRefused("start 1", TextEdgeTest::planned, 3, 1);
        Edge.isTextRefused("back 1", TextEdgeTest::planned, 2, 0);
        for (int how = 1; how <= 4; how++) {
            Edge.isTextRefused("start " + how, Edge::busy, 2, how);
            Edge.isTextRefused("hall " + how + " 4/4", Edge::busy, 2, how);
        }
        for (int how : new int[] {0, 2, 3, 4}) {
            Edge.isTextRefused("back " + how, Edge::busy, 2, how);
        }
        Edge.isTextRefused("shut 3", Edge::busy, 4, 0);
        Edge.isTextRefused("open 2", Edge::busy, 4, 1);
    }

    /** "... with the number of the command, from 0, as the detail", and by what the commands before it did. */
    private static void laterCommandRefused() {
        StringBuilder text = new StringBuilder();
        for (int command = 0; command < 7; command++) {
            Edge.isTextRefused(text + "tour 9", Edge::nothing, 20, command);
            Edge.isTextRefused(text + "hours 41", Edge::nothing, 20, command);
            Edge.isTextRefused(text + "start 5", Edge::nothing, 20, command);
            text.append(command % 2 == 0 ? "shut 3;" : "open 3;");
        }
        Edge.isTextRefused("shut 0;shut 0", Edge::nothing, 4, 0);
        Edge.isTextRefused("shut 0;open 0;open 0", Edge::nothing, 4, 1);
        Edge.isTextRefused("start 0;start 0", TextEdgeTest::planned, 2, 1);
        Edge.isTextRefused("start 0;hours 1;back 0", TextEdgeTest::planned, 2, 3);
        Edge.isTextRefused("start 0;back 0;back 0", TextEdgeTest::planned, 2, 4);
        Edge.isTextRefused("tour 0;hall 2 0/0;hall 2 0/0", TextEdgeTest::planned, 5, 0);
        Edge.isTextRefused("tour 0;tour 0;tour 0;tour 0;tour 0", TextEdgeTest::planned, 1, 6);
        Edge.isTextRefused("hall 2 0/0;tour 0", TextEdgeTest::planned, 20, 0);
        Check.answers("a tour of the same text", () -> Edge.tell(Edge.made(TextEdgeTest::planned),
            "tour 0;hall 2 0/0;start 2"), 3);
    }

    // ---- Promise 27: faultPosition

    private static void promise27None() {
        Edge.leaves("none was kept", Edge::nothing, Edge.NONE, TheatreSaga::faultPosition);
        Consumer<TheatreSaga> read = x -> {
            Edge.tell(x, "tour 0");
            Edge.type(x, "tour 5");
            Check.answer(x::read);
        };
        Edge.leaves("a text and a refused one keep none", read, Edge.NONE, TheatreSaga::faultPosition);
        Check.answers("one was kept", Edge.made(Edge::busy)::faultPosition, 0);
    }

    private static boolean isText(String told) {
        return told.matches("(tour|start|back|shut|open) \\d|hours \\d\\d?|hall \\d \\d/\\d\\d?"
            + "|wagons \\d \\d/\\d\\d?x\\d|beds \\d \\d/\\d\\d?x\\d\\d?");
    }

    /** "The offset of the first character that cannot continue such a text": a wrong one in each place. */
    private static void promise27WrongSign() {
        for (String command : COMMANDS) {
            for (int at = 0; at < command.length(); at++) {
                for (char wrong : WRONG.toCharArray()) {
                    String told = command.substring(0, at) + wrong + command.substring(at + 1);
                    faultIs(told, at);
                    faultIs("tour 0;" + told, 7 + at);
                    faultIs(told + ";tour 0", at);
                }
            }
        }
    }

    private static void faultIs(String told, int due) {
        TheatreSaga x = new TheatreSaga();
        Edge.type(x, told);
        Check.refuses("no text: " + told, x::read, Edge.ARGUMENT);
        Check.answers("the fault position of " + told, x::faultPosition, due);
        Check.same("nothing is carried out", x.number(1), 0);
    }

    /** "... or the length of the text if it ends too early." */
    private static void promise27EndsTooEarly() {
        faultIs("", 0);
        faultIs("tour 0;", 7);
        for (String command : COMMANDS) {
            for (int length = 1; length < command.length(); length++) {
                String told = command.substring(0, length);
                if (!isText(told)) {
                    faultIs(told, length);
                    faultIs("tour 0;" + told, 7 + length);
                }
            }
            faultIs("tour 0;" + command + ";", 8 + command.length());
        }
    }

    /** Behind a whole command stands a ";" or nothing. */
    private static void promise27OneSignTooMuch() {
        for (String command : COMMANDS) {
            for (char more : (WRONG + "0 /xt").toCharArray()) {
                faultIs(command + more, command.length());
                faultIs("tour 0;" + command + more, 7 + command.length());
            }
            faultIs(command + ";;" + command, command.length() + 1);
            faultIs(command + "; " + command, command.length() + 1);
            faultIs(" " + command, 0);
            faultIs(";" + command, 0);
        }
    }

    /** Words that begin as another one does. */
    private static void promise27Words() {
        String[] told = {"h", "ho", "ha", "hx", "hallo", "houl", "haurs 1", "s", "st", "sh", "sx", "shart 1", "stut 1",
            "b", "be", "ba", "bx", "back 0 0/0x1", "beck 0", "bads 0", "t", "tours 1", "w", "o", "opens 1", "hall0 0/0",
            "tour0", "hours1", "tour  0", "hall 0  0/0", "hall 0 0 /0", "wagon 0 0/0x1", "bed 0 0/0x1", "TOUR 0",
            "hall 0 0-0", "hall 0 0/x", "beds 0 0/x1", "beds 0 0/0X1", "wagons 0 0/0 x1", "tour -1", "tour +1"};
        int[] due = {1, 2, 2, 1, 4, 3, 2, 1, 2, 2, 1, 2, 2,
            1, 2, 2, 1, 6, 2, 2, 1, 4, 1, 1, 4, 4,
            4, 5, 5, 7, 8, 5, 3, 0,
            8, 9, 9, 10, 12, 5, 5};
        Check.same("a fault position for each", due.length, told.length);
        for (int i = 0; i < told.length; i++) {
            faultIs(told[i], due[i]);
            faultIs("tour 0;" + told[i], 7 + due[i]);
        }
    }

    /** "The fault position that was kept last." */
    private static void promise27IsKept() {
        TheatreSaga x = new TheatreSaga();
        Edge.type(x, "tourist");
        Check.answer(x::read);
        Check.same("kept", x.faultPosition(), 4);
        Edge.tell(x, "tour 0");
        Check.same("a text leaves it", x.faultPosition(), 4);
        Edge.type(x, "tour 9");
        Check.answer(x::read);
        Check.same("a refused text leaves it", x.faultPosition(), 4);
        x.feed('t');
        Check.same("the input alone leaves it", x.faultPosition(), 4);
        Check.answer(x::read);
        Check.same("the last one", x.faultPosition(), 1);
        Check.answer(x::read);
        Check.same("of an empty input", x.faultPosition(), 0);
    }

    // ---- Promise 28: refusal

    private static void promise28None() {
        Edge.leaves("no reason", Edge::nothing, Edge.NONE, x -> x.refusal(true));
        Edge.leaves("no detail", Edge::nothing, Edge.NONE, x -> x.refusal(false));
        Consumer<TheatreSaga> thrown = x -> {
            Check.answer(() -> x.tour(5));
            Check.answer(() -> x.start(0));
            Check.answer(() -> x.shut(5, true));
            Check.answer(() -> x.dear(0, 6));
            Check.answer(() -> x.pass(41));
            Check.answer(() -> x.ranked(0));
            Check.answer(x::undo);
            Check.answer(x::read);
        };
        Edge.leaves("other exceptions are no refusals", thrown, Edge.NONE, x -> x.refusal(true));
        Edge.leaves("other exceptions have no detail", thrown, Edge.NONE, x -> x.refusal(false));
    }

    /** "Returns a part of the latest refusal." */
    private static void promise28Latest() {
        TheatreSaga x = Edge.made(Edge::full);
        Check.answer(() -> x.tour(0));
        refusalIs(x, 1, 6);
        Check.answer(() -> x.step(5, 2, 3, 3, 3));
        refusalIs(x, 1, 8);
        Check.answer(() -> x.step(5, 0, 0, 0, 1));
        refusalIs(x, 5, 0);
        Check.answer(() -> x.start(4));
        refusalIs(x, 2, 4);
        Check.answer(() -> x.back(0));
        refusalIs(x, 2, 0);
        Check.answer(() -> x.shut(4, true));
        refusalIs(x, 4, 0);
        Check.answer(x::read);
        Edge.type(x, "shut 0;hours 0");
        Check.answer(x::read);
        refusalIs(x, 20, 1);
        Edge.type(x, "shut 0;hours 1;shut 0");
        Check.answer(x::read);
        refusalIs(x, 4, 0);
    }

    private static void refusalIs(TheatreSaga x, int reason, int detail) {
        Check.answers("the reason", () -> x.refusal(true), reason);
        Check.answers("the detail", () -> x.refusal(false), detail);
    }

    /** What succeeds, and what throws another exception, leaves the latest refusal. */
    private static void promise28Kept() {
        TheatreSaga x = new TheatreSaga();
        x.tour(0);
        x.tour(0);
        Check.answer(() -> x.start(1));
        x.step(1, 0, 0, 0, 1);
        x.start(1);
        x.pass(1);
        refusalIs(x, 3, 1);
        Check.answer(() -> x.start(2));
        Check.answer(() -> x.tour(5));
        Edge.type(x, "start 0;");
        Check.answer(x::read);
        refusalIs(x, 3, 1);
        Edge.tell(x, "tour 0;hall 2 2/2");
        x.undo();
        refusalIs(x, 3, 1);
    }

    // ---- Promise 29: undo

    private static void promise29() {
        Edge.leaves("nothing yet", Edge::nothing, Edge.STATE, TheatreSaga::undo);
        Consumer<TheatreSaga> undone = x -> {
            x.tour(0);
            x.undo();
        };
        Edge.leaves("nothing more", undone, Edge.STATE, TheatreSaga::undo);
        Consumer<TheatreSaga> refused = x -> {
            Check.answer(() -> x.shut(0, false));
            Check.answer(() -> x.tour(9));
            x.saveSnapshot();
            x.feed('x');
            Check.answer(x::read);
        };
        Edge.leaves("only what is no change", refused, Edge.STATE, TheatreSaga::undo);
    }

    /** Each kind of change: undone, all is as it was before. */
    private static void promise29EachChange() {
        undoes("tour", x -> x.tour(2));
        undoes("step", x -> x.step(0, 1, 3, 3, 4));
        undoes("start", x -> x.start(0));
        undoes("back", x -> x.back(1));
        undoes("shut", x -> x.shut(2, true));
        undoes("open", x -> x.shut(3, false));
        undoes("dear", x -> x.dear(0, 1));
        undoes("dear, as dear as before", x -> x.dear(0, 3));
        undoes("an hour", x -> x.pass(1));
        undoes("40 hours", x -> x.pass(40));
        undoes("read", x -> {
            Check.answer(x::read);
            Edge.tell(x, "tour 4;hall 5 0/5;start 5;open 3;open 4;start 0;hours 30");
        });
    }

    private static void undoes(String what, Consumer<TheatreSaga> change) {
        Consumer<TheatreSaga> changed = Edge.BUSY.andThen(change);
        Check.yes(what + " changes something, or is counted", Edge.made(changed).number(16) == 8);
        Consumer<TheatreSaga> undone = changed.andThen(TheatreSaga::undo);
        Check.same(what + " is undone", withoutCount(undone), withoutCount(Edge.BUSY));
    }

    /** All but how many changes can be undone, which is one less when a ninth one was forgotten. */
    private static List<String> withoutCount(Consumer<TheatreSaga> past) {
        return State.now(past).stream().filter(line -> !line.startsWith("number 16")).toList();
    }

    /** "Returns the number of changes that can still be undone", of at most 8. */
    private static void promise29Eight() {
        for (int changes = 1; changes <= 10; changes++) {
            TheatreSaga x = new TheatreSaga();
            for (int i = 0; i < changes; i++) {
                x.dear(0, i % 5 + 1);
            }
            int can = Math.min(8, changes);
            Check.same("can be undone", x.number(16), can);
            for (int i = 1; i <= can; i++) {
                Check.answers("can still be undone", x::undo, can - i);
                int before = changes - i;
                Check.same("the dearness", x.townOf(0, 1), before == 0 ? 2 : (before - 1) % 5 + 1);
            }
            Check.refuses("no more", x::undo, Edge.STATE);
            x.dear(0, 5);
            Check.answers("a new one", x::undo, 0);
        }
    }

    // ---- Promises 30 and 31: saveSnapshot, restoreSnapshot

    /** "Saves all that changes can change, in place of an earlier snapshot. Returns the number of tours." */
    private static void promise30() {
        TheatreSaga x = new TheatreSaga();
        for (int tours = 0; tours <= 6; tours++) {
            Check.same("the number of tours", x.saveSnapshot(), tours);
            Check.same("it is no change", x.number(16), tours);
            if (tours < 6) {
                x.tour(0);
            }
        }
        x.undo();
        x.undo();
        Check.same("a smaller one in its place", x.saveSnapshot(), 4);
        x.tour(0);
        Check.same("the latest", x.restoreSnapshot(), 4);
        Consumer<TheatreSaga> saved = Edge.BUSY.andThen(TheatreSaga::saveSnapshot);
        Check.same("saving leaves the state", State.now(saved), State.now(Edge.BUSY));
        Check.same("saving leaves what is kept", State.kept(saved), State.kept(Edge.BUSY));
        Check.same("what can be undone still can", State.now(saved.andThen(TheatreSaga::undo)),
            State.now(Edge.BUSY.andThen(TheatreSaga::undo)));
    }

    /** "Throws IllegalStateException if there is none"; "the latest snapshot, which is kept." */
    private static void promise31() {
        Edge.leaves("none", Edge::nothing, Edge.STATE, TheatreSaga::restoreSnapshot);
        Edge.leaves("none, but changes", TextEdgeTest::planned, Edge.STATE, TheatreSaga::restoreSnapshot);
        TheatreSaga x = new TheatreSaga();
        x.saveSnapshot();
        Check.answers("one without tours", x::restoreSnapshot, 0);
        x.tour(0);
        x.saveSnapshot();
        for (int again = 0; again < 3; again++) {
            x.tour(0);
            x.step(0, 0, 0, again, 1);
            Check.answers("it is kept", x::restoreSnapshot, 1);
            Check.same("without the step", x.tourOf(0, 2), 0);
            Check.refuses("without the tour", () -> x.tourOf(1, 0), Edge.INDEX);
        }
        x.tour(0);
        x.undo();
        Check.answers("it outlives an undo", x::restoreSnapshot, 1);
    }

    /** "Nothing can be undone then." */
    private static void promise31NothingCanBeUndone() {
        Consumer<TheatreSaga> restored = Edge.BUSY.andThen(TheatreSaga::restoreSnapshot);
        Edge.leaves("nothing can be undone", restored, Edge.STATE, TheatreSaga::undo);
        TheatreSaga x = Edge.made(restored);
        Check.same("none", x.number(16), 0);
        for (int change = 1; change <= 9; change++) {
            x.pass(1);
            Check.same("what comes then can", x.number(16), Math.min(8, change));
        }
        for (int left = 7; left >= 0; left--) {
            Check.answers("undone", x::undo, left);
        }
        Check.same("an hour behind the snapshot", x.number(0), 3);
        Check.refuses("nothing from before it", x::undo, Edge.STATE);
        Check.answers("restored with nothing to undo", x::restoreSnapshot, 5);
        Check.same("the hour of the snapshot", x.number(0), 2);
    }

    /** All that changes can change is restored. */
    private static void promise31Whole() {
        Consumer<TheatreSaga> saved = Edge.BUSY.andThen(TheatreSaga::saveSnapshot);
        Consumer<TheatreSaga> changed = saved.andThen(x -> {
            Check.answer(x::read);
            Edge.tell(x, "tour 4;hall 5 0/5;beds 5 0/5x12;start 5;open 3;open 4");
            Edge.tell(x, "beds 0 1/1x1;start 0;back 1;hours 2;shut 0;hours 30");
            x.dear(2, 1);
            x.dear(4, 5);
        });
        Check.same("it is another state then", Edge.made(changed).number(0), 35);
        Check.same("restored", withoutCount(changed.andThen(TheatreSaga::restoreSnapshot)), withoutCount(saved));
        Check.same("restored twice", withoutCount(changed.andThen(TheatreSaga::restoreSnapshot)
            .andThen(x -> x.pass(9)).andThen(TheatreSaga::restoreSnapshot)), withoutCount(saved));
    }
}
