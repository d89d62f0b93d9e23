import java.lang.reflect.Field;
import java.util.ArrayList;

/**
 * Promise 14: "LARGE, refused, when it would have more than 700." No calls make a plan that is as long (662 bytes
 * are the most), so one is planted into the object; where the program does not hold its plan in the fields that
 * are named here, there is nothing to be seen.
 */
public final class PlantedPlanTest extends Deltas {
    private static final int[] OLD = mixed(300, 1);
    private static final int[] FRESH = mixed(300, 2);

    public static void main(String[] args) throws IllegalAccessException {
        int most = 0;
        int large = 0;
        // Each more of one or the other makes DELTA a byte longer.
        for (int copies = 60; copies <= 80; copies++) {
            for (int runs = 0; runs < 4; runs++) {
                DeltaFerry x = with(OLD, FRESH);
                x.differ(1, 256);
                if (!plant(x, copies, runs)) {
                    System.out.println("the plan is not held where it is looked for");
                    return;
                }
                Model model = planted(copies, runs);
                fill(x, 2, "delta");
                int want = model.encode(false);
                due(copies + " copies and " + runs + " runs", x.encode(false), want);
                dueFile("DELTA", x, 2, want == LARGE ? bytesOf("delta") : bytesOf(model.files.get(2)));
                due("the plan stays", x.instruction(299, 1), 1);
                most = Math.max(most, want);
                large += want == LARGE ? 1 : 0;
            }
        }
        due("a DELTA of 700 is seen", most, 700);
        due("a DELTA that is refused is seen", large > 0, true);
        finish("PlantedPlanTest");
    }

    private static int typeOf(int i, int copies, int runs) {
        return i < copies ? COPY : i < copies + runs ? RUN : ADD;
    }

    private static int addressOf(int i, int copies) {
        return i < copies ? 1 + i % 100 : NONE;
    }

    private static Object read(Object from, String name) throws IllegalAccessException, NoSuchFieldException {
        Field field = from.getClass().getDeclaredField(name);
        field.setAccessible(true);
        return field.get(from);
    }

    private static boolean plant(DeltaFerry x, int copies, int runs) throws IllegalAccessException {
        try {
            Object plan = read(x, "plan");
            int[] types = (int[]) read(plan, "types");
            int[] sizes = (int[]) read(plan, "sizes");
            int[] addresses = (int[]) read(plan, "addresses");
            int[] numbers = (int[]) read(plan, "numbers");
            Field count = plan.getClass().getDeclaredField("count");
            count.setAccessible(true);
            for (int i = 0; i < 300; i++) {
                types[i] = typeOf(i, copies, runs);
                sizes[i] = 1;
                addresses[i] = addressOf(i, copies);
                numbers[i] = i / 256;
            }
            count.setInt(plan, 300);
            return true;
        } catch (NoSuchFieldException | ClassCastException e) {
            return false;
        }
    }

    private static Model planted(int copies, int runs) {
        Model model = new Model();
        model.files.set(0, listOf(OLD));
        model.files.set(1, listOf(FRESH));
        model.differ(1, 256);
        model.plan = new ArrayList<>();
        for (int i = 0; i < 300; i++) {
            model.plan.add(new Model.Told(typeOf(i, copies, runs), 1, addressOf(i, copies), i / 256, i));
        }
        return model;
    }
}
