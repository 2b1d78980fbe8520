import java.lang.reflect.Method;
import java.lang.reflect.Modifier;
import java.util.ArrayList;
import java.util.List;
import java.util.Set;
import java.util.TreeSet;

/**
 * Every call with its arguments at and beside all edges, each with each, on logs in every state
 * that the document tells apart. Compared with the model are what the call answers or throws, so
 * also which of several exceptions, and what can be seen of the log behind it.
 */
public final class EdgesTest {
    private static final int LEAST = Integer.MIN_VALUE;
    private static final int MOST = Integer.MAX_VALUE;
    private static final int[] NUMBERS_OF_FEW = {LEAST, -1, 0, 1, 2, 3, 4, MOST};
    private static final int[] CORNERS = {-1, 0, 1, 2, 3};
    private static final int[] NO_OR_YES = {0, 1};
    private static final int[] LEAVES = {LEAST, -1, 0, 1, 2, 5, 6, MOST};
    private static final int[] RADII = {LEAST, -1, 0, 10, 11, 70, 71, 100, 101, 200, 300, 1000, 1001, MOST};

    private static int wrong = 0;
    private static int calls = 0;
    /** Each name of a call with what it did: an exception's name, or that it answered. */
    private static final Set<String> seen = new TreeSet<>();
    private static final List<int[]> asks = asks();

    public static void main(String[] args) {
        for (State state : states()) {
            for (int call = 0; call < Calls.COUNT; call++) {
                tryAll(state, call, edges(call), new int[4], 0);
            }
        }
        everyOutcomeWasSeen();
        System.out.println(wrong == 0 ? calls + " calls at the edges are as due" : wrong + " are not as due");
        if (wrong != 0) {
            System.exit(1);
        }
    }

    /** By argument, the numbers that are tried for it. */
    private static int[][] edges(int call) {
        return switch (call) {
            case Calls.CELL -> new int[][] {NUMBERS_OF_FEW, {LEAST, -1, 0, 1, 2, MOST}, {LEAST, -1, 0, 1, 2, MOST}, NO_OR_YES};
            case Calls.ROOM_OF -> new int[][] {CORNERS, CORNERS, CORNERS, CORNERS};
            case Calls.PEEL -> new int[][] {{LEAST, -1, 0, 1, 30, 1000, 1001, MOST}, RADII};
            case Calls.FAULT -> new int[][] {{LEAST, -1, 0, 359, 360, MOST}, RADII, {LEAST, -1, 0, 3, 4, MOST}};
            case Calls.UNROLLED -> new int[][] {{LEAST, -1, 0, 1, 2, 3, 15, 16, MOST}};
            case Calls.LEAF -> new int[][] {{LEAST, -1, 0, 1, 500, 501, MOST}, {LEAST, -1, 0, 1000000, 1000001, MOST}};
            case Calls.BARS -> new int[][] {LEAVES, {LEAST, -1, 0, 1, 2, 3, 4, 32, MOST}, NO_OR_YES};
            case Calls.CLIP -> new int[][] {{LEAST, -1, 0, 1, 100, 1000, 1001, MOST}};
            case Calls.AT -> new int[][] {{LEAST, -1, 0, 1, 2, 3, 12, 13, 1999, 2000, MOST}, NUMBERS_OF_FEW};
            case Calls.SHRINK -> new int[][] {LEAVES, {LEAST, -1, 0, 1, 2, 999, 1000, 1001, MOST}, {LEAST, -1, 0, 1, 2, 1000, 1001, MOST}};
            case Calls.ROW -> new int[][] {RADII, {LEAST, -101, -100, 0, 100, 101, MOST}};
            case Calls.KNIFE -> new int[][] {RADII};
            case Calls.ROOM, Calls.RADIUS -> new int[][] {};
            default -> new int[][] {NUMBERS_OF_FEW};
        };
    }

    private static void tryAll(State state, int call, int[][] edges, int[] arguments, int filled) {
        if (filled == edges.length) {
            tryOne(state, call, arguments);
            return;
        }
        for (int number : edges[filled]) {
            arguments[filled] = number;
            tryAll(state, call, edges, arguments, filled + 1);
        }
    }

    private static void tryOne(State state, int call, int[] arguments) {
        PeelRibbons x = new PeelRibbons(state.slices, state.side);
        Model model = new Model(state.slices, state.side);
        for (int[] told : state.story) {
            Calls.answerOf(x, told[0], told[1], told[2], told[3], told[4]);
            Calls.answerOf(model, told[0], told[1], told[2], told[3], told[4]);
        }
        calls++;
        String want = Calls.answerOf(model, call, arguments);
        seen.add(Calls.name(call) + " " + (Calls.isAnswer(want) ? "answers" : want));
        String where = state.name + ": " + Calls.told(call, arguments);
        compare(want, Calls.answerOf(x, call, arguments), where);
        for (int[] ask : asks) {
            String due = Calls.answerOf(model, ask[0], ask[1], ask[2], ask[3], ask[4]);
            compare(due, Calls.answerOf(x, ask[0], ask[1], ask[2], ask[3], ask[4]), where + ", then " + Calls.name(ask[0]));
        }
    }

    private static void compare(String want, String got, String where) {
        if (!want.equals(got)) {
            wrong++;
            if (wrong <= 20) {
                System.out.println(where + " answered " + got + ", due is " + want);
            }
        }
    }

    /**
     * What is looked at of a log. What changes nothing is asked first; then what tells whether
     * it is new, or which number it has, and what is clipped from there.
     */
    private static List<int[]> asks() {
        List<int[]> all = new ArrayList<>();
        for (int k = 0; k <= 3; k++) {
            add(all, Calls.CLIPPED, k);
            add(all, Calls.BEFORE, k + 1);
            add(all, Calls.AXIS, k);
        }
        for (int k = 0; k <= 6; k++) {
            add(all, Calls.AT, k * 2, 0);
            add(all, Calls.AT, k * 2, 1);
            add(all, Calls.SHRINK, k, 1, 1);
        }
        for (int k = 0; k <= 16; k++) {
            add(all, Calls.UNROLLED, k);
            add(all, Calls.KNIFE, k * 60);
        }
        add(all, Calls.ROOM);
        add(all, Calls.RADIUS);
        add(all, Calls.ROOM_OF, 1, 1, 1, 1);
        for (int k = 0; k < 24; k++) {
            add(all, Calls.BARS, k / 4, k % 4, k % 3 == 0 ? 1 : 0);
        }
        add(all, Calls.CLIP, 100);
        add(all, Calls.CLIPPED, 0);
        add(all, Calls.CLIPPED, 1);
        add(all, Calls.ROW, 0, 9);
        add(all, Calls.FAULT, 0, 100, 0);
        add(all, Calls.LEAF, 1, 0);
        for (int k = 0; k < 16; k++) {
            add(all, Calls.CELL, k / 4, k / 2 % 2, k % 2, 1);
        }
        add(all, Calls.ROOM);
        return all;
    }

    private static List<State> states() {
        List<State> all = new ArrayList<>();
        all.add(new State("new", 2, 2));
        all.add(full("nothing peeled"));
        all.add(full("peeled").then(Calls.PEEL, 30, 10));
        all.add(full("clipped without leaves").then(Calls.PEEL, 30, 10).then(Calls.CLIP, 100));
        all.add(full("clipped").thenSome().thenClipped());
        all.add(full("not clipped again since a fault").thenSome().thenClipped().then(Calls.FAULT, 0, 90, 0));
        all.add(full("not peeled again since a cell").thenSome().thenClipped().then(Calls.CELL, 0, 0, 0, 0));
        all.add(full("clipped without a turn").thenSome().then(Calls.PEEL, 1, 1000).then(Calls.CLIP, 1));
        all.add(full("all places full, nothing peeled").thenAllPlaces());
        all.add(full("all places full").thenAllPlaces().thenClipped());
        all.add(new State("one slice", 1, 2).thenFull().thenSome().thenClipped());
        all.add(new State("four slices", 4, 2).thenFull().thenSome().thenClipped());
        return all;
    }

    private static State full(String name) {
        return new State(name, 2, 2).thenFull();
    }

    private static void add(List<int[]> all, int call, int... arguments) {
        int[] told = new int[5];
        told[0] = call;
        System.arraycopy(arguments, 0, told, 1, arguments.length);
        all.add(told);
    }

    private static void everyOutcomeWasSeen() {
        for (Method method : PeelRibbons.class.getDeclaredMethods()) {
            if (Modifier.isPublic(method.getModifiers())) {
                outcomeWasSeen(method.getName() + " answers");
                for (Class<?> thrown : method.getExceptionTypes()) {
                    outcomeWasSeen(method.getName() + " " + thrown.getSimpleName());
                }
            }
        }
    }

    private static void outcomeWasSeen(String outcome) {
        if (!seen.contains(outcome)) {
            wrong++;
            System.out.println("no case of this was tried: " + outcome);
        }
    }

    /** A log that is made ready by a story of calls. */
    private static final class State {
        final String name;
        final int slices;
        final int side;
        final List<int[]> story = new ArrayList<>();

        State(String name, int slices, int side) {
            this.name = name;
            this.slices = slices;
            this.side = side;
        }

        State then(int call, int... arguments) {
            add(story, call, arguments);
            return this;
        }

        State thenFull() {
            for (int slice = 0; slice < slices; slice++) {
                for (int cell = 0; cell < side * side; cell++) {
                    then(Calls.CELL, slice, cell / side, cell % side, 1);
                }
            }
            return this;
        }

        /** Something of every sort, and there is room for more. */
        State thenSome() {
            then(Calls.FAULT, 144, 100, 2).then(Calls.FAULT, 10, 60, 0);
            then(Calls.LEAF, 4, 7).then(Calls.LEAF, 1, 2);
            then(Calls.BARS, 0, 2, 1).then(Calls.BARS, 1, 0, 1);
            return then(Calls.ROW, 800, 5).then(Calls.ROW, 300, -5);
        }

        State thenAllPlaces() {
            for (int k = 0; k < 16; k++) {
                then(Calls.FAULT, k * 20, 100 - k * 5, k % 4);
            }
            for (int k = 0; k < 6; k++) {
                then(Calls.LEAF, k + 1, k + 2).then(Calls.BARS, k, k % 4, 1);
            }
            for (int k = 0; k < 8; k++) {
                then(Calls.ROW, 900 - k * 100, k);
            }
            return this;
        }

        State thenClipped() {
            return then(Calls.PEEL, 30, 10).then(Calls.CLIP, 100);
        }
    }
}
