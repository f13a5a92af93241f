/** Promises 6 to 14: the calls of the MOMENTS. */
public final class MomentsTest {
    private static final int MOST = 1800000000;
    private static final int BILLION = 1000000000;
    private static final int[] NO_MOMENTS = {-1, 4, Integer.MIN_VALUE, Integer.MAX_VALUE};

    public static void main(String[] args) {
        moment();
        milli();
        move();
        momentOf();
        ofMoment();
        millis();
        orderMoment();
        isMoment();
        copyMoment();
        Due.end();
    }

    private static void has(String what, Momentdesk desk, int moment, int second, int nano) {
        Due.asks(what + ", its SECOND", desk, second, () -> desk.ofMoment(moment, false));
        Due.asks(what + ", its NANO", desk, nano, () -> desk.ofMoment(moment, true));
    }

    private static void moment() {
        Momentdesk desk = new Momentdesk();
        Due.answers("6: plain", 7, () -> desk.moment(1, 5, 7));
        has("6: plain", desk, 1, 5, 7);
        Due.answers("6: nanos below 0", 999999999, () -> desk.moment(1, 0, -1));
        has("6: nanos below 0", desk, 1, -1, 999999999);
        Due.answers("6: nanos above a second", 147483647, () -> desk.moment(1, -3, Integer.MAX_VALUE));
        has("6: nanos above a second", desk, 1, -1, 147483647);
        Due.answers("6: the least nanos", 852516352, () -> desk.moment(1, 3, Integer.MIN_VALUE));
        has("6: the least nanos", desk, 1, 0, 852516352);
        Due.answers("6: the last one", 999999999, () -> desk.moment(3, MOST, 999999999));
        has("6: the last one", desk, 3, MOST, 999999999);
        Due.answers("6: the first one", 0, () -> desk.moment(3, -MOST, 0));
        has("6: the first one", desk, 3, -MOST, 0);
        Due.answers("6: back into the limits", 0, () -> desk.moment(3, MOST + 1, -BILLION));
        Due.answers("6: on into the limits", 1, () -> desk.moment(3, -MOST - 1, BILLION + 1));
        Due.refuses("6: above", desk, () -> desk.moment(3, MOST + 1, 0));
        Due.refuses("6: above by nanos", desk, () -> desk.moment(3, MOST, BILLION));
        Due.refuses("6: below", desk, () -> desk.moment(3, -MOST - 1, 999999999));
        Due.refuses("6: below by nanos", desk, () -> desk.moment(3, -MOST, -1));
        Due.refuses("6: the greatest", desk, () -> desk.moment(3, Integer.MAX_VALUE, Integer.MAX_VALUE));
        Due.refuses("6: the least", desk, () -> desk.moment(3, Integer.MIN_VALUE, Integer.MIN_VALUE));
        for (int no : NO_MOMENTS) {
            Due.throwsIt("6: moment " + no, desk, Due.NO_SUCH_ONE, () -> desk.moment(no, 0, 0));
            Due.throwsIt("6: and beyond " + no, desk, Due.NO_SUCH_ONE, () -> desk.moment(no, MOST + 1, 0));
        }
    }

    private static void milli() {
        Momentdesk desk = new Momentdesk();
        Due.answers("7: plain", 7000000, () -> desk.milli(2, 5, 7));
        has("7: plain", desk, 2, 5, 7000000);
        Due.answers("7: below 0", 999000000, () -> desk.milli(2, 0, -1));
        has("7: below 0", desk, 2, -1, 999000000);
        Due.answers("7: many millis", 647000000, () -> desk.milli(2, 0, Integer.MAX_VALUE));
        has("7: many millis", desk, 2, 2147483, 647000000);
        Due.answers("7: the least millis", 352000000, () -> desk.milli(2, 0, Integer.MIN_VALUE));
        has("7: the least millis", desk, 2, -2147484, 352000000);
        Due.answers("7: the last one", 999000000, () -> desk.milli(2, MOST, 999));
        Due.answers("7: the first one", 0, () -> desk.milli(2, -MOST, 0));
        Due.answers("7: back into the limits", 0, () -> desk.milli(2, MOST + 1, -1000));
        Due.refuses("7: above", desk, () -> desk.milli(2, MOST, 1000));
        Due.refuses("7: below", desk, () -> desk.milli(2, -MOST, -1));
        Due.refuses("7: the greatest", desk, () -> desk.milli(2, Integer.MAX_VALUE, Integer.MAX_VALUE));
        Due.refuses("7: the least", desk, () -> desk.milli(2, Integer.MIN_VALUE, Integer.MIN_VALUE));
        for (int no : NO_MOMENTS) {
            Due.throwsIt("7: moment " + no, desk, Due.NO_SUCH_ONE, () -> desk.milli(no, 0, 0));
        }
    }

    private static void move() {
        Momentdesk desk = new Momentdesk();
        moves(desk, 0, 3, false, 3, 0);
        moves(desk, 0, 5, true, -2, 0);
        moves(desk, 1, 1, false, -2, 1000000);
        moves(desk, 1, 2, true, -3, 999000000);
        moves(desk, 2, 1, false, -3, 999000001);
        moves(desk, 2, 999000002, true, -4, 999999999);
        moves(desk, 2, -1, true, -3, 0);
        moves(desk, 0, -7, true, 4, 0);
        moves(desk, 1, Integer.MIN_VALUE, true, 2147487, 648000000);
        moves(desk, 1, Integer.MAX_VALUE, true, 4, 1000000);
        moves(desk, 2, Integer.MIN_VALUE, true, 6, 148483648);
        moves(desk, 2, 0, false, 6, 148483648);
        desk.moment(0, MOST, 999999999);
        Due.refuses("8: a nano above", desk, () -> desk.move(0, 2, 1, false));
        Due.refuses("8: a milli above", desk, () -> desk.move(0, 1, 1, false));
        Due.refuses("8: a second above", desk, () -> desk.move(0, 0, -1, true));
        Due.refuses("8: far above", desk, () -> desk.move(0, 0, Integer.MIN_VALUE, true));
        Due.answers("8: from the one end", 999999999, () -> desk.move(0, 0, MOST, true));
        Due.answers("8: to the other end", 999999999, () -> desk.move(0, 0, -MOST, false));
        Due.answers("8: at the other end", 0, () -> desk.move(0, 2, 999999999, true));
        Due.refuses("8: a nano below", desk, () -> desk.move(0, 2, 1, true));
        Due.refuses("8: far below", desk, () -> desk.move(0, 0, Integer.MIN_VALUE, false));
        for (int unit : new int[] {-1, 3, Integer.MIN_VALUE, Integer.MAX_VALUE}) {
            Due.throwsIt("8: unit " + unit, desk, Due.BAD_ARGUMENT, () -> desk.move(0, unit, 1, false));
            Due.throwsIt("8: unit ahead of a refusal " + unit, desk, Due.BAD_ARGUMENT,
                    () -> desk.move(0, unit, Integer.MIN_VALUE, false));
        }
        for (int no : NO_MOMENTS) {
            Due.throwsIt("8: moment " + no, desk, Due.NO_SUCH_ONE, () -> desk.move(no, 0, 0, false));
            Due.throwsIt("8: both wrong " + no, desk, Due.NO_SUCH_ONE, () -> desk.move(no, 3, 0, false));
        }
    }

    private static void moves(Momentdesk desk, int unit, int amount, boolean isBack, int second, int nano) {
        String what = "8: move " + unit + " " + amount + " " + isBack;
        Due.answers(what, nano, () -> desk.move(0, unit, amount, isBack));
        has(what, desk, 0, second, nano);
    }

    private static void momentOf() {
        Momentdesk desk = new Momentdesk();
        desk.date(1, 2001, 909, 1 * 3600 + 46 * 60 + 40, 5, 0);
        Due.answers("9: at the offset 0", 5, () -> desk.momentOf(0, 1));
        has("9: at the offset 0", desk, 0, BILLION, 5);
        desk.anew(1, 3, true);
        Due.answers("9: less the OFFSET", 5, () -> desk.momentOf(0, 1));
        has("9: less the OFFSET", desk, 0, BILLION - 20700, 5);
        desk.moment(2, MOST, 999999999);
        desk.dateOf(3, 2, 2);
        Due.answers("9: the last one", 999999999, () -> desk.momentOf(1, 3));
        has("9: the last one", desk, 1, MOST, 999999999);
        desk.moveDate(3, 7, 1, false);
        Due.refuses("9: above", desk, () -> desk.momentOf(1, 3));
        desk.moment(2, -MOST, 0);
        desk.dateOf(3, 2, 1);
        Due.answers("9: the first one", 0, () -> desk.momentOf(3, 3));
        has("9: the first one", desk, 3, -MOST, 0);
        desk.moveDate(3, 7, 1, true);
        Due.refuses("9: below", desk, () -> desk.momentOf(3, 3));
        for (int no : NO_MOMENTS) {
            Due.throwsIt("9: moment " + no, desk, Due.NO_SUCH_ONE, () -> desk.momentOf(no, 0));
            Due.throwsIt("9: dated " + no, desk, Due.NO_SUCH_ONE, () -> desk.momentOf(0, no));
            Due.throwsIt("9: ahead of a refusal " + no, desk, Due.NO_SUCH_ONE, () -> desk.momentOf(no, 3));
        }
    }

    private static void ofMoment() {
        Momentdesk desk = new Momentdesk();
        desk.moment(3, -10, 1);
        has("10: below 0", desk, 3, -10, 1);
        has("10: the others stay", desk, 2, 0, 0);
        desk.moment(3, -9, 0);
        has("10: -9", desk, 3, -9, 0);
        for (int no : NO_MOMENTS) {
            Due.throwsIt("10: moment " + no, desk, Due.NO_SUCH_ONE, () -> desk.ofMoment(no, true));
            Due.throwsIt("10: moment " + no, desk, Due.NO_SUCH_ONE, () -> desk.ofMoment(no, false));
        }
    }

    private static void millis() {
        Momentdesk desk = new Momentdesk();
        text(desk, 0, 0, "0");
        text(desk, 0, 999999, "0");
        text(desk, 0, 1000000, "1");
        text(desk, 0, 10000000, "10");
        text(desk, 0, -1, "-1");
        text(desk, 0, -1000000, "-1");
        text(desk, 0, -1000001, "-2");
        text(desk, 1, 0, "1000");
        text(desk, -1, 0, "-1000");
        text(desk, 1234567890, 987654321, "1234567890987");
        text(desk, MOST, 999999999, "1800000000999");
        text(desk, -MOST, 0, "-1800000000000");
        text(desk, -MOST, 1, "-1800000000000");
        for (int no : NO_MOMENTS) {
            Due.throwsIt("11: moment " + no, desk, Due.NO_SUCH_ONE, () -> desk.millis(no));
        }
    }

    private static void text(Momentdesk desk, int second, int nanos, String want) {
        desk.moment(1, second, nanos);
        Due.asks("11: millis of " + second + " " + nanos, desk, want, () -> desk.millis(1));
    }

    private static void orderMoment() {
        Momentdesk desk = new Momentdesk();
        desk.moment(1, 5, 0);
        desk.moment(2, 5, 1);
        desk.moment(3, -5, 999999999);
        Due.asks("12: the smaller one is ahead", desk, -1, () -> desk.orderMoment(1, 2));
        Due.asks("12: the other way round", desk, 1, () -> desk.orderMoment(2, 1));
        Due.asks("12: below 0", desk, -1, () -> desk.orderMoment(3, 0));
        Due.asks("12: itself", desk, 0, () -> desk.orderMoment(2, 2));
        desk.copyMoment(0, 2);
        Due.asks("12: like ones", desk, 0, () -> desk.orderMoment(2, 0));
        desk.moment(0, -MOST, 0);
        desk.moment(1, MOST, 0);
        Due.asks("12: both ends", desk, -1, () -> desk.orderMoment(0, 1));
        Due.asks("12: both ends, round", desk, 1, () -> desk.orderMoment(1, 0));
        for (int no : NO_MOMENTS) {
            Due.throwsIt("12: moment " + no, desk, Due.NO_SUCH_ONE, () -> desk.orderMoment(no, 0));
            Due.throwsIt("12: other " + no, desk, Due.NO_SUCH_ONE, () -> desk.orderMoment(0, no));
        }
    }

    private static void isMoment() {
        Momentdesk desk = new Momentdesk();
        desk.moment(1, 0, 1);
        compares(desk, 0, 1, true, false, false);
        compares(desk, 1, 0, false, true, false);
        compares(desk, 2, 3, false, false, true);
        compares(desk, 1, 1, false, false, true);
        for (int what : new int[] {-1, 3, Integer.MIN_VALUE, Integer.MAX_VALUE}) {
            Due.throwsIt("13: what " + what, desk, Due.BAD_ARGUMENT, () -> desk.isMoment(0, 1, what));
        }
        for (int no : NO_MOMENTS) {
            Due.throwsIt("13: moment " + no, desk, Due.NO_SUCH_ONE, () -> desk.isMoment(no, 0, 0));
            Due.throwsIt("13: other " + no, desk, Due.NO_SUCH_ONE, () -> desk.isMoment(0, no, 0));
            Due.throwsIt("13: both wrong " + no, desk, Due.NO_SUCH_ONE, () -> desk.isMoment(0, no, 3));
        }
    }

    private static void compares(Momentdesk desk, int one, int other, boolean... wants) {
        for (int n = 0; n < wants.length; n++) {
            int what = n;
            Due.asks("13: isMoment " + one + " " + other + " " + what, desk, wants[n],
                    () -> desk.isMoment(one, other, what));
        }
    }

    private static void copyMoment() {
        Momentdesk desk = new Momentdesk();
        desk.moment(1, -7, 8);
        Due.answers("14: another one", 8, () -> desk.copyMoment(3, 1));
        has("14: it becomes that", desk, 3, -7, 8);
        has("14: that stays", desk, 1, -7, 8);
        Due.asks("14: itself", desk, 8, () -> desk.copyMoment(1, 1));
        desk.move(3, 0, 1, false);
        has("14: each is moved for itself", desk, 1, -7, 8);
        for (int no : NO_MOMENTS) {
            Due.throwsIt("14: moment " + no, desk, Due.NO_SUCH_ONE, () -> desk.copyMoment(no, 1));
            Due.throwsIt("14: from " + no, desk, Due.NO_SUCH_ONE, () -> desk.copyMoment(0, no));
        }
    }
}
