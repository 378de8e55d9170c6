import java.util.ArrayList;
import java.util.List;

/**
 * A desk that can be made again and again, so that what a call changes shows in twins, each of which is looked at in
 * one way alone.
 */
final class Scene {
    private static final int MORE_THAN_RECORDED = 5;

    interface Maker {
        Desk make();
    }

    interface Call {
        Object on(CalculatedSheet sheet);
    }

    private final Maker maker;
    private final String ending;
    private final List<String> untouched;

    /** The ending makes what is on the pad whole, so that the pad can be told by what it does. */
    Scene(String ending, Maker maker) {
        this.maker = maker;
        this.ending = ending;
        untouched = views(null);
    }

    /** Numbers, formulas, errors, a ring, a snapshot, four records; the last row and the last column are not empty. */
    static Scene busy(String pad, String ending) {
        return new Scene(ending, () -> {
            Desk desk = new Desk();
            desk.sheet.setNumber(0, 5);
            desk.with("B1", "=A1*2", "C1", "=1/0");
            desk.sheet.keep();
            desk.with("D1", "=D1", "J20", "=A1");
            desk.sheet.setNumber(99, 3);
            return desk.write(pad);
        });
    }

    String outcome(Call call) {
        Desk desk = maker.make();
        return Checks.outcome(() -> call.on(desk.sheet));
    }

    /** What differs when the call was made; nothing if it changed nothing. */
    String changedBy(Call call) {
        List<String> touched = views(call);
        for (int view = 0; view < touched.size(); view++) {
            if (!touched.get(view).equals(untouched.get(view))) {
                return "seen: " + touched.get(view) + " due is: " + untouched.get(view);
            }
        }
        return "";
    }

    private List<String> views(Call call) {
        List<String> views = new ArrayList<>();
        views.add(twin(call).look());
        views.add(twin(call).lookAtPad(ending));
        for (int steps = 1; steps <= MORE_THAN_RECORDED; steps++) {
            Desk desk = twin(call);
            String undone = "";
            for (int step = 0; step < steps; step++) {
                undone += Checks.outcome(desk.sheet::undo) + " ";
            }
            views.add(undone + desk.look());
        }
        Desk desk = twin(call);
        views.add(Checks.outcome(desk.sheet::goBack) + " " + desk.look());
        return views;
    }

    private Desk twin(Call call) {
        Desk desk = maker.make();
        if (call != null) {
            Checks.outcome(() -> call.on(desk.sheet));
        }
        return desk;
    }
}
