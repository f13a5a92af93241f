/** Promises 24 to 32: the calls of the CLOCKS. */
public final class ClocksTest {
    private static final int[] NO_CLOCKS = {-1, 3, Integer.MIN_VALUE, Integer.MAX_VALUE};
    private static final int[] NO_OTHERS = {-1, 4, Integer.MIN_VALUE, Integer.MAX_VALUE};

    public static void main(String[] args) {
        clock();
        clockOf();
        strike();
        moveClock();
        anewClock();
        copyClock();
        ofClock();
        ofClockOfEachMinute();
        orderClock();
        isClock();
        Due.end();
    }

    private static void has(String what, Momentdesk desk, int clock, int second, int nano, int offset) {
        Due.asks(what + ", its second", desk, second, () -> desk.ofClock(clock, 5));
        Due.asks(what + ", its nano", desk, nano, () -> desk.ofClock(clock, 3));
        Due.asks(what + ", its offset", desk, offset, () -> desk.ofClock(clock, 4));
    }

    private static void clock() {
        Momentdesk desk = new Momentdesk();
        Due.answers("24: ahead, below 0", -3600, () -> desk.clock(0, 0, 0, 1));
        has("24: ahead, below 0", desk, 0, 0, 0, 3600);
        Due.answers("24: behind, above a day", 104399, () -> desk.clock(2, 86399, 999999999, 2));
        has("24: behind, above a day", desk, 2, 86399, 999999999, -18000);
        Due.answers("24: plain", 5, () -> desk.clock(1, 5, 7, 0));
        desk.offset(0, 14);
        has("24: the OFFSET as it was then", desk, 1, 5, 7, 0);
        Due.answers("24: -9 is no refusal", -9, () -> desk.clock(1, 5, 7, 0));
        Due.answers("24: nor is it counted", 0, () -> desk.house(1));
        for (int wrong : new int[] {-1, 86400, Integer.MIN_VALUE, Integer.MAX_VALUE}) {
            Due.throwsIt("24: second " + wrong, desk, Due.BAD_ARGUMENT, () -> desk.clock(0, wrong, 0, 0));
        }
        for (int wrong : new int[] {-1, 1000000000, Integer.MIN_VALUE, Integer.MAX_VALUE}) {
            Due.throwsIt("24: nano " + wrong, desk, Due.BAD_ARGUMENT, () -> desk.clock(0, 0, wrong, 0));
        }
        for (int no : NO_CLOCKS) {
            Due.throwsIt("24: clock " + no, desk, Due.NO_SUCH_ONE, () -> desk.clock(no, 0, 0, 0));
            Due.throwsIt("24: clock and second " + no, desk, Due.NO_SUCH_ONE, () -> desk.clock(no, -1, 0, 0));
        }
        for (int no : NO_OTHERS) {
            Due.throwsIt("24: offset " + no, desk, Due.NO_SUCH_ONE, () -> desk.clock(0, 0, 0, no));
            Due.throwsIt("24: offset and nano " + no, desk, Due.NO_SUCH_ONE, () -> desk.clock(0, 0, -1, no));
        }
    }

    private static void clockOf() {
        Momentdesk desk = new Momentdesk();
        desk.date(3, 1955, 310, 43223, 17, 3);
        Due.answers("25: of a dated before 1970", 43223 - 20700, () -> desk.clockOf(2, 3));
        has("25: its time", desk, 2, 43223, 17, 20700);
        desk.date(3, 2030, 1231, 86399, 999999999, 2);
        Due.answers("25: of one behind", 104399, () -> desk.clockOf(2, 3));
        has("25: of one behind", desk, 2, 86399, 999999999, -18000);
        for (int no : NO_CLOCKS) {
            Due.throwsIt("25: clock " + no, desk, Due.NO_SUCH_ONE, () -> desk.clockOf(no, 0));
        }
        for (int no : NO_OTHERS) {
            Due.throwsIt("25: dated " + no, desk, Due.NO_SUCH_ONE, () -> desk.clockOf(0, no));
        }
    }

    private static void strike() {
        Momentdesk desk = new Momentdesk();
        desk.date(3, 1955, 310, 43223, 17, 3);
        desk.clock(2, 86399, 999999999, 2);
        Due.answers("26: its day stays", -5411, () -> desk.strike(3, 2));
        Due.answers("26: its second", 86399, () -> desk.ofDate(3, 12));
        Due.answers("26: its nano", 999999999, () -> desk.ofDate(3, 7));
        Due.answers("26: its offset", -18000, () -> desk.ofDate(3, 9));
        has("26: the clock stays", desk, 2, 86399, 999999999, -18000);
        desk.date(1, 2030, 1231, 0, 0, 0);
        Due.answers("26: on the last day", 22279, () -> desk.strike(1, 2));
        desk.date(1, 1910, 101, 5, 5, 0);
        Due.answers("26: on the first day", -21915, () -> desk.strike(1, 0));
        desk.date(1, 1969, 1223, 5, 5, 0);
        Due.answers("26: -9 is no refusal", -9, () -> desk.strike(1, 0));
        Due.answers("26: nothing was refused", 0, () -> desk.house(1));
        for (int no : NO_CLOCKS) {
            Due.throwsIt("26: clock " + no, desk, Due.NO_SUCH_ONE, () -> desk.strike(0, no));
        }
        for (int no : NO_OTHERS) {
            Due.throwsIt("26: dated " + no, desk, Due.NO_SUCH_ONE, () -> desk.strike(no, 0));
        }
    }

    private static void moveClock() {
        Momentdesk desk = new Momentdesk();
        moves(desk, 4, 1, false, 46823, 17);
        moves(desk, 4, 12, false, 23, 17);
        moves(desk, 4, 13, true, 82823, 17);
        moves(desk, 4, 24, false, 43223, 17);
        moves(desk, 4, Integer.MIN_VALUE, false, 14423, 17);
        moves(desk, 4, Integer.MIN_VALUE, true, 72023, 17);
        moves(desk, 5, 720, false, 23, 17);
        moves(desk, 5, -1, false, 43163, 17);
        moves(desk, 5, Integer.MIN_VALUE, true, 50903, 17);
        moves(desk, 6, 43177, false, 0, 17);
        moves(desk, 6, 43176, false, 86399, 17);
        moves(desk, 6, 43224, true, 86399, 17);
        moves(desk, 6, Integer.MIN_VALUE, true, 54871, 17);
        moves(desk, 7, 17, true, 43223, 0);
        moves(desk, 7, 18, true, 43222, 999999999);
        moves(desk, 7, 999999983, false, 43224, 0);
        moves(desk, 7, Integer.MIN_VALUE, true, 43225, 147483665);
        moves(desk, 7, Integer.MIN_VALUE, false, 43220, 852516369);
        desk.clock(0, 86399, 999999999, 0);
        Due.answers("27: over the end", 0, () -> desk.moveClock(0, 7, 1, false));
        has("27: over the end", desk, 0, 0, 0, 0);
        Due.answers("27: and back", 86399, () -> desk.moveClock(0, 7, 1, true));
        has("27: and back", desk, 0, 86399, 999999999, 0);
        for (int unit : new int[] {0, 1, 2, 3, 8, -1, Integer.MIN_VALUE, Integer.MAX_VALUE}) {
            Due.throwsIt("27: unit " + unit, desk, Due.BAD_ARGUMENT, () -> desk.moveClock(0, unit, 1, false));
        }
        for (int no : NO_CLOCKS) {
            Due.throwsIt("27: clock " + no, desk, Due.NO_SUCH_ONE, () -> desk.moveClock(no, 4, 0, false));
            Due.throwsIt("27: both wrong " + no, desk, Due.NO_SUCH_ONE, () -> desk.moveClock(no, 3, 0, false));
        }
    }

    private static void moves(Momentdesk desk, int unit, int amount, boolean isBack, int second, int nano) {
        String what = "27: moved " + unit + " " + amount + " " + isBack;
        desk.clock(2, 43223, 17, 3);
        Due.answers(what, second - 20700, () -> desk.moveClock(2, unit, amount, isBack));
        has(what, desk, 2, second, nano, 20700);
    }

    private static void anewClock() {
        Momentdesk desk = new Momentdesk();
        desk.clock(1, 3600, 8, 0);
        Due.answers("28: at the same moment, but for the day", 90000, () -> desk.anewClock(1, 2, false));
        has("28: back over the beginning", desk, 1, 72000, 8, -18000);
        Due.answers("28: and on again", 3600, () -> desk.anewClock(1, 0, false));
        has("28: and on again", desk, 1, 3600, 8, 0);
        Due.answers("28: on", 3600, () -> desk.anewClock(1, 3, false));
        has("28: on", desk, 1, 24300, 8, 20700);
        Due.answers("28: from one to another", 3600, () -> desk.anewClock(1, 1, false));
        has("28: from one to another", desk, 1, 7200, 8, 3600);
        Due.answers("28: the time of the day stays", -13500, () -> desk.anewClock(1, 3, true));
        has("28: the time of the day stays", desk, 1, 7200, 8, 20700);
        Due.asks("28: by its own one", desk, -13500, () -> desk.anewClock(1, 3, false));
        for (int no : NO_CLOCKS) {
            Due.throwsIt("28: clock " + no, desk, Due.NO_SUCH_ONE, () -> desk.anewClock(no, 0, true));
        }
        for (int no : NO_OTHERS) {
            Due.throwsIt("28: offset " + no, desk, Due.NO_SUCH_ONE, () -> desk.anewClock(0, no, false));
        }
    }

    private static void copyClock() {
        Momentdesk desk = new Momentdesk();
        desk.clock(1, 43223, 17, 3);
        Due.answers("29: another one", 22523, () -> desk.copyClock(2, 1));
        has("29: it becomes that", desk, 2, 43223, 17, 20700);
        has("29: that stays", desk, 1, 43223, 17, 20700);
        Due.asks("29: itself", desk, 22523, () -> desk.copyClock(1, 1));
        desk.moveClock(2, 6, 1, false);
        has("29: each is moved for itself", desk, 1, 43223, 17, 20700);
        for (int no : NO_CLOCKS) {
            Due.throwsIt("29: clock " + no, desk, Due.NO_SUCH_ONE, () -> desk.copyClock(no, 1));
            Due.throwsIt("29: from " + no, desk, Due.NO_SUCH_ONE, () -> desk.copyClock(0, no));
        }
    }

    private static void ofClock() {
        Momentdesk desk = new Momentdesk();
        desk.clock(2, 23 * 3600 + 45 * 60 + 6, 999999999, 2);
        int[] wants = {23, 45, 6, 999999999, -18000, 85506};
        for (int n = 0; n < wants.length; n++) {
            int what = n;
            Due.asks("30: ofClock " + what, desk, wants[n], () -> desk.ofClock(2, what));
        }
        for (int what : new int[] {-1, 6, Integer.MIN_VALUE, Integer.MAX_VALUE}) {
            Due.throwsIt("30: what " + what, desk, Due.BAD_ARGUMENT, () -> desk.ofClock(0, what));
        }
        for (int no : NO_CLOCKS) {
            Due.throwsIt("30: clock " + no, desk, Due.NO_SUCH_ONE, () -> desk.ofClock(no, 0));
            Due.throwsIt("30: both wrong " + no, desk, Due.NO_SUCH_ONE, () -> desk.ofClock(no, 6));
        }
    }

    private static void ofClockOfEachMinute() {
        Momentdesk desk = new Momentdesk();
        for (int minute = 0; minute < 1440; minute++) {
            for (int second : new int[] {0, 59}) {
                desk.clock(0, minute * 60 + second, 0, 0);
                Due.is("30: HOUR of " + minute, minute / 60, desk.ofClock(0, 0));
                Due.is("30: MINUTE of " + minute, minute % 60, desk.ofClock(0, 1));
                Due.is("30: SECOND OF THE MINUTE of " + minute, second, desk.ofClock(0, 2));
                Due.is("30: SECOND OF THE DAY of " + minute, minute * 60 + second, desk.ofClock(0, 5));
            }
        }
    }

    private static void orderClock() {
        Momentdesk desk = new Momentdesk();
        desk.clock(0, 3600, 5, 0);
        desk.clock(1, 7200, 5, 1);
        desk.clock(2, 3600, 5, 1);
        Due.asks("31: of one moment, by the local time", desk, -1, () -> desk.orderClock(0, 1));
        Due.asks("31: the other way round", desk, 1, () -> desk.orderClock(1, 0));
        Due.asks("31: by the moment", desk, 1, () -> desk.orderClock(0, 2));
        Due.asks("31: by the moment, round", desk, -1, () -> desk.orderClock(2, 0));
        Due.asks("31: itself", desk, 0, () -> desk.orderClock(2, 2));
        desk.clock(2, 3600, 6, 0);
        Due.asks("31: by the nano", desk, -1, () -> desk.orderClock(0, 2));
        Due.asks("31: the moment's nano, ahead of the local time", desk, -1, () -> desk.orderClock(1, 2));
        desk.copyClock(2, 1);
        Due.asks("31: the same", desk, 0, () -> desk.orderClock(1, 2));
        desk.clock(0, 0, 0, 1);
        desk.clock(1, 86399, 0, 2);
        Due.asks("31: no day is taken off", desk, -1, () -> desk.orderClock(0, 1));
        for (int no : NO_CLOCKS) {
            Due.throwsIt("31: clock " + no, desk, Due.NO_SUCH_ONE, () -> desk.orderClock(no, 0));
            Due.throwsIt("31: other " + no, desk, Due.NO_SUCH_ONE, () -> desk.orderClock(0, no));
        }
    }

    private static void isClock() {
        Momentdesk desk = new Momentdesk();
        desk.clock(0, 3600, 5, 0);
        desk.clock(1, 7200, 5, 1);
        desk.clock(2, 3600, 5, 1);
        compares(desk, 0, 1, false, false, true, false);
        compares(desk, 1, 0, false, false, true, false);
        compares(desk, 0, 2, false, true, false, false);
        compares(desk, 2, 0, true, false, false, false);
        compares(desk, 1, 1, false, false, true, true);
        desk.clock(2, 3600, 6, 0);
        compares(desk, 0, 2, true, false, false, false);
        compares(desk, 2, 0, false, true, false, false);
        desk.copyClock(2, 0);
        compares(desk, 0, 2, false, false, true, true);
        for (int what : new int[] {-1, 4, Integer.MIN_VALUE, Integer.MAX_VALUE}) {
            Due.throwsIt("32: what " + what, desk, Due.BAD_ARGUMENT, () -> desk.isClock(0, 1, what));
        }
        for (int no : NO_CLOCKS) {
            Due.throwsIt("32: clock " + no, desk, Due.NO_SUCH_ONE, () -> desk.isClock(no, 0, 0));
            Due.throwsIt("32: other " + no, desk, Due.NO_SUCH_ONE, () -> desk.isClock(0, no, 0));
            Due.throwsIt("32: both wrong " + no, desk, Due.NO_SUCH_ONE, () -> desk.isClock(0, no, 4));
        }
    }

    private static void compares(Momentdesk desk, int one, int other, boolean... wants) {
        for (int n = 0; n < wants.length; n++) {
            int what = n;
            Due.asks("32: isClock " + one + " " + other + " " + what, desk, wants[n],
                    () -> desk.isClock(one, other, what));
        }
    }
}
