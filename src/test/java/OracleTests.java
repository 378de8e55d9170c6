import java.lang.reflect.InvocationTargetException;
import java.lang.reflect.Method;
import java.util.HashMap;
import java.util.Map;

/** Long mixed runs: the class and the oracle must answer every call alike. */
public final class OracleTests {
    private static final int RUNS = 1500;
    private static final int CALLS = 512;
    private static final String[] OF_CELL = {"isEmpty", "isFormula", "hasValue", "value", "valueByAsking",
        "isDivision", "isTooGreat", "isBroken", "isWithoutValues", "isCyclic", "formulaLength", "references",
        "dependents", "allDependents", "isRing", "placeInOrder", "chain"};
    private static final String[] OF_NOTHING = {"contentFault", "ordersFault", "filled", "formulas", "errors",
        "latestComputed", "allComputed", "meanValue"};
    private static final Map<String, Method> METHODS = new HashMap<>();
    private static final Grammar GRAMMAR = new Grammar();

    /** Where a run's cells lie: the first one, how many rows, how many columns. */
    private static final int[][] AREAS = {{0, 4, 3}, {0, 3, 4}, {0, 20, 10}, {0, 6, 5}, {167, 4, 3}, {155, 5, 5}};

    private final Dice dice;
    private final int[] area;
    private final Contents contents;
    private final CalculatedSheet sheet = new CalculatedSheet();
    private final Oracle oracle = new Oracle(GRAMMAR);
    private final StringBuilder story = new StringBuilder();
    private int left = CALLS;
    private boolean differs = false;

    private OracleTests(int run) {
        dice = new Dice(run);
        area = AREAS[run % AREAS.length];
        contents = new Contents(dice, area[0], area[1], area[2]);
    }

    public static void main(String[] args) {
        learn(CalculatedSheet.class);
        learn(Oracle.class);
        int wrong = 0;
        for (int run = 0; run < RUNS && wrong < 3; run++) {
            OracleTests one = new OracleTests(run);
            one.play();
            if (one.differs) {
                wrong++;
                System.out.println("run " + run + ":" + one.story);
            }
        }
        System.out.println(RUNS + " runs, " + wrong + " wrong");
        System.exit(wrong == 0 ? 0 : 1);
    }

    private static void learn(Class<?> type) {
        for (Method method : type.getDeclaredMethods()) {
            method.setAccessible(true);
            METHODS.put(type.getName() + "." + method.getName() + method.getParameterCount(), method);
        }
    }

    private void play() {
        while (left > 0 && !differs) {
            step();
        }
    }

    private void step() {
        switch (dice.below(18)) {
            case 0, 1, 2, 3, 4:
                write(dice.oneIn(8) ? contents.spoilt(contents.content()) : contents.content());
                both("enter", cell());
                break;
            case 5:
                write(dice.oneIn(5) ? contents.spoilt(contents.orders()) : contents.orders());
                both(dice.oneIn(4) ? "ordersFault" : "runOrders");
                break;
            case 6, 7:
                change();
                break;
            case 8:
                shift();
                break;
            case 9:
                both(dice.pick("undo", "undo", "keep", "goBack"));
                break;
            case 10:
                whatWouldBe();
                break;
            default:
                ask();
                break;
        }
    }

    private void change() {
        switch (dice.below(6)) {
            case 0, 1:
                both("setNumber", cell(), number());
                break;
            case 2:
                both("clear", cell());
                break;
            case 3:
                both("moveCell", cell(), cell());
                break;
            default:
                both("copyBlock", cell(), cell(), cell());
                break;
        }
    }

    private void shift() {
        if (dice.oneIn(2)) {
            both(dice.pick("insertRow", "deleteRow"), line(area[0] / 10));
        } else {
            both(dice.pick("insertColumn", "deleteColumn"), line(area[0] % 10));
        }
    }

    private int line(int first) {
        return dice.oneIn(9) ? dice.below(24) - 2 : first + dice.below(5) - (first > 0 ? 2 : 0);
    }

    private void whatWouldBe() {
        switch (dice.below(3)) {
            case 0:
                both("valueIf", cell(), number(), cell());
                break;
            case 1:
                both("numberFor", cell(), cell(), dice.below(30) - 5);
                break;
            default:
                both("errorsWithout", cell());
                break;
        }
    }

    private void ask() {
        switch (dice.below(8)) {
            case 0:
                both(OF_NOTHING[dice.below(OF_NOTHING.length)]);
                break;
            case 1:
                both(dice.pick("referenceAt", "formulaCharacter"), cell(), dice.below(14) - 1);
                break;
            case 2:
                both("dependsOn", cell(), cell());
                break;
            case 3:
                both("orderAt", dice.below(16) - 1);
                break;
            case 4:
                if (dice.oneIn(2)) {
                    both("columnTotal", line(area[0] % 10));
                } else {
                    both("rowTotal", line(area[0] / 10));
                }
                break;
            case 5:
                both("find", number());
                break;
            default:
                both(OF_CELL[dice.below(OF_CELL.length)], cell());
                break;
        }
    }

    private int cell() {
        return dice.oneIn(60) ? dice.below(3) * 201 - 202 : contents.cell();
    }

    private int number() {
        return dice.oneIn(9) ? (dice.below(3) - 1) * (999998 + dice.below(3)) : dice.below(20) - 6;
    }

    private void write(String text) {
        both("clearPad");
        for (int place = 0; place < text.length(); place++) {
            both("type", text.charAt(place));
        }
        both("contentFault");
    }

    private void both(String name, int... numbers) {
        if (left <= 0 || differs) {
            return;
        }
        left--;
        String got = answer(sheet, name, numbers);
        String want = answer(oracle, name, numbers);
        story.append(' ').append(name).append('(');
        for (int place = 0; place < numbers.length; place++) {
            story.append(place == 0 ? "" : ", ").append(numbers[place]);
        }
        story.append(')');
        if (!got.equals(want)) {
            differs = true;
            story.append(" answered ").append(got).append(", due is ").append(want);
        }
    }

    private static String answer(Object object, String name, int... numbers) {
        Object[] given = new Object[numbers.length];
        for (int place = 0; place < numbers.length; place++) {
            given[place] = numbers[place];
        }
        try {
            Method method = METHODS.get(object.getClass().getName() + "." + name + numbers.length);
            return String.valueOf(method.invoke(object, given));
        } catch (InvocationTargetException thrown) {
            return thrown.getCause().getClass().getName();
        } catch (IllegalAccessException impossible) {
            return "not to be called: " + name;
        }
    }
}
