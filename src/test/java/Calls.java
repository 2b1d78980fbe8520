import java.util.Arrays;
import java.util.List;

/**
 * The calls of the face by their numbers, so that the same call can be made on the class and on
 * the model. Arguments are four numbers, of which a call takes the first ones; where it takes a
 * boolean, 0 is false. An answer is told as its text, an exception as its name.
 */
final class Calls {
    static final int CELL = 0;
    static final int ROOM = 1;
    static final int AXIS = 2;
    static final int RADIUS = 3;
    static final int ROOM_OF = 4;
    static final int PEEL = 5;
    static final int BEFORE = 6;
    static final int FAULT = 7;
    static final int UNROLLED = 8;
    static final int LEAF = 9;
    static final int BARS = 10;
    static final int CLIP = 11;
    static final int AT = 12;
    static final int CLIPPED = 13;
    static final int SHRINK = 14;
    static final int ROW = 15;
    static final int KNIFE = 16;
    static final int COUNT = 17;

    private static final List<String> NAMES = List.of("cell", "room", "axis", "radius", "roomOf", "peel", "before",
            "fault", "unrolled", "leaf", "bars", "clip", "at", "clipped", "shrink", "row", "knife");

    private Calls() {
    }

    static String name(int call) {
        return NAMES.get(call);
    }

    static int number(String name) {
        return NAMES.indexOf(name);
    }

    static String told(int call, int[] a) {
        return name(call) + Arrays.toString(a);
    }

    static boolean isAnswer(String told) {
        return !told.endsWith("Exception");
    }

    static String answerOf(PeelRibbons x, int call, int... a) {
        try {
            Object answer = switch (call) {
                case CELL -> x.cell(a[0], a[1], a[2], a[3] != 0);
                case ROOM -> x.room();
                case AXIS -> x.axis(a[0]);
                case RADIUS -> x.radius();
                case ROOM_OF -> x.roomOf(a[0], a[1], a[2], a[3]);
                case PEEL -> x.peel(a[0], a[1]);
                case BEFORE -> x.before(a[0]);
                case FAULT -> x.fault(a[0], a[1], a[2]);
                case UNROLLED -> x.unrolled(a[0]);
                case LEAF -> x.leaf(a[0], a[1]);
                case BARS -> x.bars(a[0], a[1], a[2] != 0);
                case CLIP -> x.clip(a[0]);
                case AT -> x.at(a[0], a[1]);
                case CLIPPED -> x.clipped(a[0]);
                case SHRINK -> x.shrink(a[0], a[1], a[2]);
                case ROW -> x.row(a[0], a[1]);
                case KNIFE -> x.knife(a[0]);
                default -> throw new AssertionError("no such call");
            };
            return answer.toString();
        } catch (RuntimeException e) {
            return e.getClass().getSimpleName();
        }
    }

    static String answerOf(Model m, int call, int... a) {
        try {
            Object answer = switch (call) {
                case CELL -> m.cell(a[0], a[1], a[2], a[3] != 0);
                case ROOM -> m.axis()[4];
                case AXIS -> m.numberOfAxis(a[0]);
                case RADIUS -> m.radiusNow();
                case ROOM_OF -> m.roomOf(a[0], a[1], a[2], a[3]);
                case PEEL -> m.peel(a[0], a[1]);
                case BEFORE -> m.before(a[0]);
                case FAULT -> m.fault(a[0], a[1], a[2]);
                case UNROLLED -> m.unrolled(a[0]);
                case LEAF -> m.leaf(a[0], a[1]);
                case BARS -> m.bars(a[0], a[1], a[2] != 0);
                case CLIP -> m.clip(a[0]);
                case AT -> m.at(a[0], a[1]);
                case CLIPPED -> m.clipped(a[0]);
                case SHRINK -> m.shrink(a[0], a[1], a[2]);
                case ROW -> m.row(a[0], a[1]);
                case KNIFE -> m.knife(a[0]);
                default -> throw new AssertionError("no such call");
            };
            return answer.toString();
        } catch (Model.Refused e) {
            return e.getMessage();
        }
    }
}
