/**
 * Long runs of calls, compared with the model. The arguments come from a fixed row of numbers, so
 * that every run is the same each time.
 */
public final class ModelTest {
    private static final int RUNS = 400;
    private static final int CALLS = 512;

    private static int wrong = 0;
    private static long seed = 20261115;
    /** By call, how often it answered: a run in which all calls throw would test nothing. */
    private static final int[] answersSeen = new int[Calls.COUNT];

    public static void main(String[] args) {
        for (int run = 0; run < RUNS && wrong < 20; run++) {
            oneRun(run);
        }
        for (int call = 0; call < Calls.COUNT; call++) {
            if (answersSeen[call] < 100) {
                wrong++;
                System.out.println(Calls.name(call) + " was hardly answered: " + answersSeen[call]);
            }
        }
        System.out.println(wrong == 0 ? "all answers are those of the model" : wrong + " answers are not");
        if (wrong != 0) {
            System.exit(1);
        }
    }

    private static void oneRun(int run) {
        int slices = run % 3 == 0 ? number(-1, 6) : number(1, 4);
        int side = run % 8 == 0 ? number(7, 12) : number(0, 6);
        PeelRibbons x = new PeelRibbons(slices, side);
        Model model = new Model(slices, side);
        int called = fillBoth(run, x, model);
        for (; called < CALLS && wrong < 20; called++) {
            int call = number(0, Calls.COUNT - 1);
            if (call == Calls.CELL && number(0, 3) != 0) {
                call = number(Calls.PEEL, Calls.CLIPPED);
            }
            compare(run, x, model, call, arguments(call, model));
        }
    }

    /** Cells told by chance alone would leave no room for an axis, so most are told IN first. */
    private static int fillBoth(int run, PeelRibbons x, Model model) {
        int called = 0;
        int holes = number(0, 3);
        for (int slice = 0; slice < model.slices; slice++) {
            for (int cx = 0; cx < model.side; cx++) {
                for (int cy = 0; cy < model.side; cy++) {
                    if (number(0, 99) >= holes * 3 && called < 400) {
                        compare(run, x, model, Calls.CELL, new int[] {slice, cx, cy, 1});
                        called++;
                    }
                }
            }
        }
        return called;
    }

    private static int[] arguments(int call, Model m) {
        int[] a = goodArguments(call, m);
        if (number(0, 19) == 0) {
            a[number(0, 3)] = wildNumber();
        }
        return a;
    }

    private static int[] goodArguments(int call, Model m) {
        return switch (call) {
            case Calls.CELL -> of(number(0, m.slices - 1), number(0, m.side - 1), number(0, m.side - 1), number(0, 1));
            case Calls.AXIS -> of(number(0, 3), 0, 0, 0);
            case Calls.ROOM_OF -> of(number(0, m.side), number(0, m.side), number(0, m.side), number(0, m.side));
            case Calls.PEEL -> of(number(0, 2) == 0 ? number(1, 1000) : number(1, 60),
                    number(0, 3) == 0 ? number(0, 1000) : number(0, 100), 0, 0);
            case Calls.BEFORE -> of(number(0, m.turns), 0, 0, 0);
            case Calls.FAULT -> of(number(0, 359), nearRadius(m), number(0, 3), 0);
            case Calls.UNROLLED -> of(oneOf(m.faults.size()), 0, 0, 0);
            case Calls.LEAF -> of(number(0, 5) == 0 ? number(1, 500) : number(1, 12), number(0, 6), 0, 0);
            case Calls.BARS -> of(oneOf(m.leaves.size()), number(0, 3), number(0, 1), 0);
            case Calls.CLIP -> of(number(0, 1) == 0 ? number(1, 1000) : number(20, 120), 0, 0, 0);
            case Calls.AT -> of(oneOf(m.chosen.size() / 2), number(0, 1), 0, 0);
            case Calls.CLIPPED -> of(number(0, 2), 0, 0, 0);
            case Calls.SHRINK -> of(oneOf(m.leaves.size()), number(0, 500), number(500, 1000), 0);
            case Calls.ROW -> of(number(0, Math.max(1, m.lastRowRadius() + 2)), number(-100, 100), 0, 0);
            case Calls.KNIFE -> of(number(0, 1000), 0, 0, 0);
            default -> of(0, 0, 0, 0);
        };
    }

    private static int[] of(int... numbers) {
        return numbers;
    }

    /** One of so many, from 0 on; 0 if there are none. */
    private static int oneOf(int count) {
        return number(0, Math.max(0, count - 1));
    }

    private static int nearRadius(Model m) {
        return number(0, 9) == 0 ? number(0, 1000) : number(0, Math.max(1, m.radius + 2));
    }

    private static int wildNumber() {
        int[] wild = {Integer.MIN_VALUE, -1001, -101, -1, 0, 1, 4, 6, 16, 101, 360, 501, 1001, 1000001, Integer.MAX_VALUE};
        return wild[number(0, wild.length - 1)];
    }

    private static int number(int least, int most) {
        seed = seed * 6364136223846793005L + 1442695040888963407L;
        return least + (int) Math.floorMod(seed >> 33, (long) most - least + 1);
    }

    private static void compare(int run, PeelRibbons x, Model model, int call, int[] a) {
        String want = Calls.answerOf(model, call, a);
        String got = Calls.answerOf(x, call, a);
        if (Calls.isAnswer(want)) {
            answersSeen[call]++;
        }
        if (!want.equals(got)) {
            wrong++;
            System.out.println("run " + run + ": " + Calls.told(call, a) + " answered " + got + ", due is " + want);
        }
    }
}
