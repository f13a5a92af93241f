import java.util.ArrayList;
import java.util.List;

/** Promises 1 and 33 to 36: a new desk, and the calls of the desk as a whole. */
public final class DeskTest {
    public static void main(String[] args) {
        newDesk();
        knock();
        house();
        houseOfLikeOnes();
        isSound();
        digest();
        Due.end();
    }

    private static void newDesk() {
        Momentdesk desk = new Momentdesk();
        int[] offsets = {0, 3600, -18000, 20700};
        int[] dateParts = {1970, 1, 1, 1, 0, 0, 0, 0, 4, 0, 0, 0, 0};
        for (int n = 0; n < 4; n++) {
            Due.is("1: OFFSET " + n, offsets[n], desk.seconds(n));
            Due.is("1: SECOND " + n, 0, desk.ofMoment(n, false));
            Due.is("1: NANO " + n, 0, desk.ofMoment(n, true));
            for (int what = 0; what < dateParts.length; what++) {
                Due.is("1: DATED " + n + " " + what, dateParts[what], desk.ofDate(n, what));
            }
        }
        for (int n = 0; n < 3; n++) {
            for (int what = 0; what <= 5; what++) {
                Due.is("1: CLOCK " + n + " " + what, 0, desk.ofClock(n, what));
            }
        }
        for (int what = 0; what <= 3; what++) {
            Due.is("1: house " + what, 0, desk.house(what));
        }
        desk.offset(0, 5);
        desk.moment(0, 5, 5);
        desk.moveDate(0, 3, 5, false);
        desk.moveClock(0, 6, 5, false);
        Due.is("1: another desk is another one", Due.stateOf(new Momentdesk()), Due.stateOf(new Momentdesk()));
        Due.is("1: and at its beginning", 0, new Momentdesk().ofDate(0, 11));
    }

    private static void knock() {
        Momentdesk desk = new Momentdesk();
        for (int often = 1; often <= 5; often++) {
            Due.is("33: knock", often, desk.knock());
        }
        Due.is("33: each desk for itself", 1, new Momentdesk().knock());
    }

    private static void house() {
        Momentdesk desk = new Momentdesk();
        desk.knock();
        desk.knock();
        Due.asks("34: how often one knocked", desk, 2, () -> desk.house(0));
        desk.moment(0, Integer.MAX_VALUE, 0);
        desk.set(0, 1, 13);
        desk.offsetOf(0, 19, 0, 0);
        Due.asks("34: how often REFUSED was told", desk, 3, () -> desk.house(1));
        desk.date(0, 1969, 1223, 0, 0, 0);
        Due.asks("34: a day -9 is not REFUSED", desk, 3, () -> desk.house(1));
        Due.asks("34: the first DATED", desk, 0, () -> desk.house(2));
        desk.date(3, 1969, 1222, 0, 0, 0);
        Due.asks("34: another first one", desk, 3, () -> desk.house(2));
        desk.date(2, 1969, 1221, 0, 0, 0);
        Due.asks("34: another one yet", desk, 2, () -> desk.house(2));
        desk.moment(1, 0, -5);
        Due.asks("34: the first MOMENT", desk, 1, () -> desk.house(3));
        desk.moment(3, 0, -6);
        Due.asks("34: another first one", desk, 3, () -> desk.house(3));
        desk.moment(0, -1, 0);
        Due.asks("34: another one yet", desk, 0, () -> desk.house(3));
        for (int what : new int[] {-1, 4, Integer.MIN_VALUE, Integer.MAX_VALUE}) {
            Due.throwsIt("34: what " + what, desk, Due.BAD_ARGUMENT, () -> desk.house(what));
        }
    }

    private static void houseOfLikeOnes() {
        Momentdesk desk = new Momentdesk();
        desk.date(0, 2000, 101, 0, 0, 0);
        Due.asks("34: of like DATED the first one", desk, 1, () -> desk.house(2));
        desk.moment(0, 1, 0);
        Due.asks("34: of like MOMENTS the first one", desk, 1, () -> desk.house(3));
        desk.anew(1, 1, false);
        Due.asks("34: of one moment that of the smaller local time", desk, 2, () -> desk.house(2));
        desk.anew(3, 2, false);
        Due.asks("34: likewise, a day before", desk, 3, () -> desk.house(2));
    }

    private static void isSound() {
        Momentdesk desk = new Momentdesk();
        Due.asks("35: a new one", desk, true, desk::isSound);
        desk.offset(0, 64800);
        desk.offset(2, -64800);
        desk.date(0, 2030, 1231, 86399, 999999999, 0);
        desk.date(1, 1910, 101, 0, 0, 2);
        desk.date(2, 2030, 1231, 86399, 999999999, 2);
        desk.date(3, 1910, 101, 0, 0, 0);
        desk.moment(0, 1800000000, 999999999);
        desk.moment(1, -1800000000, 0);
        Due.asks("35: at all ends", desk, true, desk::isSound);
        desk.date(0, 2024, 310, 43200, 5, 1);
        desk.copy(1, 0);
        desk.anew(1, 3, false);
        desk.copy(2, 0);
        desk.anew(2, 3, true);
        Due.asks("35: alike ones and others", desk, true, desk::isSound);
    }

    private static void digest() {
        Momentdesk desk = new Momentdesk();
        Due.asks("36: a new one", desk, digestOf(desk), desk::digest);
        desk.offset(1, 64800);
        desk.knock();
        desk.moment(1, -5, 17);
        desk.moment(2, 1800000000, 999999999);
        desk.date(0, 2024, 229, 43223, 17, 3);
        desk.date(1, 1910, 101, 0, 0, 1);
        desk.copy(2, 0);
        desk.anew(2, 2, false);
        desk.clock(1, 3600, 8, 2);
        desk.clockOf(2, 0);
        desk.set(0, 1, 13);
        Due.asks("36: another one", desk, digestOf(desk), desk::digest);
        Due.asks("36: once more", desk, desk.digest(), desk::digest);
        desk.moveClock(0, 7, 1, true);
        Due.asks("36: with a nano less", desk, digestOf(desk), desk::digest);
    }

    private static long digestOf(Momentdesk desk) {
        List<Integer> values = new ArrayList<>();
        for (int n = 0; n < 4; n++) {
            values.add(desk.seconds(n));
        }
        for (int n = 0; n < 4; n++) {
            values.add(desk.ofMoment(n, false));
            values.add(desk.ofMoment(n, true));
        }
        for (int n = 0; n < 4; n++) {
            for (int what = 0; what <= 12; what++) {
                values.add(desk.ofDate(n, what));
            }
        }
        for (int n = 0; n < 3; n++) {
            for (int what = 0; what <= 5; what++) {
                values.add(desk.ofClock(n, what));
            }
        }
        for (int n = 0; n < 4; n++) {
            for (int m = 0; m < 4; m++) {
                values.add(desk.orderDate(n, m));
                values.add(desk.isDate(n, m, 2) ? 1 : 0);
            }
        }
        for (int n = 0; n < 3; n++) {
            for (int m = 0; m < 3; m++) {
                values.add(desk.orderClock(n, m));
            }
        }
        for (int what = 0; what <= 3; what++) {
            values.add(desk.house(what));
        }
        values.add(desk.isSound() ? 1 : 0);
        long digest = 6199;
        for (int value : values) {
            digest = digest * 31 + value;
        }
        return digest;
    }
}
