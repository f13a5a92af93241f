/** Promises 2 to 5: the calls of the OFFSETS. */
public final class OffsetsTest {
    private static final int[] NO_OFFSETS = {-1, 4, Integer.MIN_VALUE, Integer.MAX_VALUE};

    public static void main(String[] args) {
        offset();
        offsetOf();
        seconds();
        orderOffset();
        Due.end();
    }

    private static void offset() {
        Momentdesk desk = new Momentdesk();
        Due.answers("2: what it was", 3600, () -> desk.offset(1, 64800));
        Due.answers("2: the greatest one is told", 64800, () -> desk.offset(1, -64800));
        Due.answers("2: the least one is told", -64800, () -> desk.offset(1, -9));
        Due.answers("2: -9 is no refusal", -9, () -> desk.offset(1, 0));
        Due.answers("2: nothing was refused", 0, () -> desk.house(1));
        Due.answers("2: the last one", 20700, () -> desk.offset(3, 1));
        for (int seconds : new int[] {64801, -64801, Integer.MIN_VALUE, Integer.MAX_VALUE}) {
            Due.throwsIt("2: seconds " + seconds, desk, Due.BAD_ARGUMENT, () -> desk.offset(0, seconds));
        }
        for (int no : NO_OFFSETS) {
            Due.throwsIt("2: offset " + no, desk, Due.NO_SUCH_ONE, () -> desk.offset(no, 0));
            Due.throwsIt("2: both wrong " + no, desk, Due.NO_SUCH_ONE, () -> desk.offset(no, 64801));
        }
    }

    private static void offsetOf() {
        Momentdesk desk = new Momentdesk();
        told(desk, 18, 0, 0, 64800);
        told(desk, -18, 0, 0, -64800);
        told(desk, 17, 59, 59, 64799);
        told(desk, -17, -59, -59, -64799);
        told(desk, 5, 45, 0, 20700);
        told(desk, 0, -59, 0, -3540);
        told(desk, 0, 0, -9, -9);
        told(desk, 0, 59, 0, 3540);
        told(desk, 3, 0, 59, 10859);
        told(desk, 0, 0, 0, 0);
        Due.answers("3: nothing was refused", 0, () -> desk.house(1));
        refused(desk, 19, 0, 0);
        refused(desk, -19, 0, 0);
        refused(desk, 0, 60, 0);
        refused(desk, 0, -60, 0);
        refused(desk, 0, 0, 60);
        refused(desk, 0, 0, -60);
        refused(desk, 18, 0, 1);
        refused(desk, 18, 1, 0);
        refused(desk, -18, 0, -1);
        refused(desk, -18, -1, 0);
        refused(desk, 1, -1, 0);
        refused(desk, -1, 1, 0);
        refused(desk, 1, 0, -1);
        refused(desk, -1, 0, 1);
        refused(desk, 0, 1, -1);
        refused(desk, 0, -1, 1);
        refused(desk, 1, 1, -1);
        refused(desk, Integer.MAX_VALUE, Integer.MAX_VALUE, Integer.MAX_VALUE);
        refused(desk, Integer.MIN_VALUE, Integer.MIN_VALUE, Integer.MIN_VALUE);
        refused(desk, Integer.MIN_VALUE, 0, 0);
        for (int no : NO_OFFSETS) {
            Due.throwsIt("3: offset " + no, desk, Due.NO_SUCH_ONE, () -> desk.offsetOf(no, 0, 0, 0));
            Due.throwsIt("3: and refused " + no, desk, Due.NO_SUCH_ONE, () -> desk.offsetOf(no, 19, 0, 0));
        }
    }

    private static void told(Momentdesk desk, int hours, int minutes, int seconds, int want) {
        String what = "3: offsetOf " + hours + " " + minutes + " " + seconds;
        Due.answers(what, want, () -> desk.offsetOf(2, hours, minutes, seconds));
        Due.answers(what + ", then", want, () -> desk.seconds(2));
    }

    private static void refused(Momentdesk desk, int hours, int minutes, int seconds) {
        String what = "3: offsetOf " + hours + " " + minutes + " " + seconds;
        Due.refuses(what, desk, () -> desk.offsetOf(2, hours, minutes, seconds));
    }

    private static void seconds() {
        Momentdesk desk = new Momentdesk();
        desk.offset(2, 12345);
        Due.asks("4: as told", desk, 12345, () -> desk.seconds(2));
        Due.asks("4: the others stay", desk, 3600, () -> desk.seconds(1));
        for (int no : NO_OFFSETS) {
            Due.throwsIt("4: offset " + no, desk, Due.NO_SUCH_ONE, () -> desk.seconds(no));
        }
    }

    private static void orderOffset() {
        Momentdesk desk = new Momentdesk();
        Due.asks("5: the greater one is ahead", desk, -1, () -> desk.orderOffset(3, 1));
        Due.asks("5: the other way round", desk, 1, () -> desk.orderOffset(1, 3));
        Due.asks("5: below 0", desk, -1, () -> desk.orderOffset(0, 2));
        Due.asks("5: itself", desk, 0, () -> desk.orderOffset(2, 2));
        desk.offset(0, 3600);
        Due.asks("5: like ones", desk, 0, () -> desk.orderOffset(0, 1));
        for (int no : NO_OFFSETS) {
            Due.throwsIt("5: offset " + no, desk, Due.NO_SUCH_ONE, () -> desk.orderOffset(no, 0));
            Due.throwsIt("5: other " + no, desk, Due.NO_SUCH_ONE, () -> desk.orderOffset(0, no));
        }
    }
}
