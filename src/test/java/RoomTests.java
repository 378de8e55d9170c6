import com.sun.management.ThreadMXBean;
import java.lang.management.ManagementFactory;

/** All calls of a run live in one room: an object may not take much, and its calls next to nothing. */
public final class RoomTests {
    private static final Checks CHECKS = new Checks();
    private static final ThreadMXBean ROOM = (ThreadMXBean) ManagementFactory.getThreadMXBean();
    private static final int CALLS = 512;

    private RoomTests() {
    }

    public static void main(String[] args) {
        CHECKS.about("the room");
        long before = taken();
        Desk desk = new Desk();
        CHECKS.yes(taken() - before < 1_000_000, "a new object takes " + (taken() - before) + " bytes");
        fill(desk);
        desk.write("A1:5;A2:=SUM(A1:J20);B7:=IF(A1<3,$A$1,MAX(A1:B2));");
        calls("setNumber", () -> desk.sheet.setNumber(0, 7));
        calls("copyBlock", () -> desk.sheet.copyBlock(0, 189, 10));
        calls("undo", () -> desk.sheet.undo() + desk.sheet.copyBlock(0, 189, 10));
        calls("moveCell", () -> desk.sheet.moveCell(0, 1) + desk.sheet.moveCell(1, 0));
        calls("deleteRow", () -> desk.sheet.deleteRow(0));
        fill(desk);
        desk.write("A1:5;A2:=SUM(A1:J20);B7:=IF(A1<3,$A$1,MAX(A1:B2));");
        calls("runOrders", () -> desk.sheet.runOrders());
        calls("keep", () -> desk.sheet.keep() + desk.sheet.goBack());
        calls("valueByAsking", () -> desk.sheet.valueByAsking(0));
        calls("valueIf", () -> desk.sheet.valueIf(0, 7, 150));
        calls("numberFor", () -> desk.sheet.numberFor(0, 10, -7));
        calls("errorsWithout", () -> desk.sheet.errorsWithout(0));
        calls("formulaCharacter", () -> desk.sheet.formulaCharacter(10, 3));
        calls("contentFault", () -> desk.sheet.contentFault());
        CHECKS.end();
    }

    private static void fill(Desk desk) {
        desk.with("A1", "=B1+$B$1*SUM(B1:B1)-3", "B1", "=IF(B2<0,B2,1)");
        desk.sheet.copyBlock(0, 1, 2);
        desk.sheet.copyBlock(0, 3, 4);
        for (int row = 1; row < 19; row++) {
            desk.sheet.copyBlock(0, 7, 10 * row);
        }
    }

    private static long taken() {
        return ROOM.getThreadAllocatedBytes(Thread.currentThread().getId());
    }

    private static void calls(String name, Checks.Call call) {
        Checks.outcome(call);
        long before = taken();
        for (int number = 0; number < CALLS; number++) {
            Checks.outcome(call);
        }
        long each = (taken() - before) / CALLS;
        CHECKS.yes(each < 1000, name + " takes " + each + " bytes a call");
    }
}
