import java.time.LocalDate;

/** Promises 15 to 23: the calls of the DATED. */
public final class DatedTest {
    private static final int[] NO_DATED = {-1, 4, Integer.MIN_VALUE, Integer.MAX_VALUE};
    private static final int FIRST_DAY = -21915;
    private static final int LAST_DAY = 22279;

    public static void main(String[] args) {
        date();
        dateOf();
        moveDate();
        moveDateRefused();
        set();
        setRefused();
        anew();
        copy();
        ofDate();
        ofDateOfEachDay();
        ofDateOfEachMinute();
        orderDate();
        isDate();
        Due.end();
    }

    private static int dayOf(int year, int day) {
        return (int) LocalDate.of(year, day / 100, day % 100).toEpochDay();
    }

    /** Year, month and day in one, as they are read: 20240229. */
    private static int readDay(Momentdesk desk, int dated) {
        return (desk.ofDate(dated, 0) * 100 + desk.ofDate(dated, 1)) * 100 + desk.ofDate(dated, 2);
    }

    private static void date() {
        Momentdesk desk = new Momentdesk();
        told(desk, 1970, 101);
        told(desk, 1969, 1223);
        told(desk, 1910, 101);
        told(desk, 2030, 1231);
        told(desk, 2000, 229);
        told(desk, 2024, 229);
        told(desk, 1912, 229);
        told(desk, 2023, 228);
        told(desk, 2023, 430);
        Due.answers("15: nothing was refused", 0, () -> desk.house(1));
        Due.answers("15: all parts", 19798, () -> desk.date(3, 2024, 316, 86399, 999999999, 2));
        Due.answers("15: second", 86399, () -> desk.ofDate(3, 12));
        Due.answers("15: nano", 999999999, () -> desk.ofDate(3, 7));
        Due.answers("15: offset", -18000, () -> desk.ofDate(3, 9));
        desk.offset(2, 7);
        Due.answers("15: the OFFSET as it was then", -18000, () -> desk.ofDate(3, 9));
        for (int day : new int[] {0, 1, 31, 100, 132, 230, 431, 631, 931, 1131, 1232, 1301, 9999, 1200, 299}) {
            Due.refuses("15: no such day " + day, desk, () -> desk.date(0, 2024, day, 0, 0, 0));
        }
        Due.refuses("15: no leap year", desk, () -> desk.date(0, 2023, 229, 0, 0, 0));
        for (int year : new int[] {1909, 2031, 0, -1, Integer.MIN_VALUE, Integer.MAX_VALUE}) {
            Due.refuses("15: no such year " + year, desk, () -> desk.date(0, year, 101, 0, 0, 0));
        }
        for (int wrong : new int[] {-1, 10000, Integer.MIN_VALUE, Integer.MAX_VALUE}) {
            Due.throwsIt("15: day " + wrong, desk, Due.BAD_ARGUMENT, () -> desk.date(0, 2000, wrong, 0, 0, 0));
            Due.throwsIt("15: day ahead of a refusal " + wrong, desk, Due.BAD_ARGUMENT,
                    () -> desk.date(0, 1, wrong, 0, 0, 0));
        }
        for (int wrong : new int[] {-1, 86400, Integer.MIN_VALUE, Integer.MAX_VALUE}) {
            Due.throwsIt("15: second " + wrong, desk, Due.BAD_ARGUMENT, () -> desk.date(0, 2000, 101, wrong, 0, 0));
        }
        for (int wrong : new int[] {-1, 1000000000, Integer.MIN_VALUE, Integer.MAX_VALUE}) {
            Due.throwsIt("15: nano " + wrong, desk, Due.BAD_ARGUMENT, () -> desk.date(0, 2000, 101, 0, wrong, 0));
            Due.throwsIt("15: nano ahead of a refusal " + wrong, desk, Due.BAD_ARGUMENT,
                    () -> desk.date(0, 2000, 230, 0, wrong, 0));
        }
        for (int no : NO_DATED) {
            Due.throwsIt("15: dated " + no, desk, Due.NO_SUCH_ONE, () -> desk.date(no, 2000, 101, 0, 0, 0));
            Due.throwsIt("15: offset " + no, desk, Due.NO_SUCH_ONE, () -> desk.date(0, 2000, 101, 0, 0, no));
            Due.throwsIt("15: dated and day " + no, desk, Due.NO_SUCH_ONE, () -> desk.date(no, 0, -1, 0, 0, 0));
            Due.throwsIt("15: offset and nano " + no, desk, Due.NO_SUCH_ONE, () -> desk.date(0, 0, 0, 0, -1, no));
        }
    }

    private static void told(Momentdesk desk, int year, int day) {
        String what = "15: date " + year + " " + day;
        Due.answers(what, dayOf(year, day), () -> desk.date(0, year, day, 0, 0, 0));
        Due.answers(what + ", then", year * 10000 + day, () -> readDay(desk, 0));
        Due.answers(what + ", nothing else", 0, () -> desk.ofDate(0, 12) + desk.ofDate(0, 7) + desk.ofDate(0, 9));
    }

    private static void dateOf() {
        Momentdesk desk = new Momentdesk();
        desk.moment(1, 0, 3);
        Due.answers("16: ahead", 0, () -> desk.dateOf(2, 1, 1));
        Due.answers("16: its local time", 3600, () -> desk.ofDate(2, 12));
        Due.answers("16: its nano", 3, () -> desk.ofDate(2, 7));
        Due.answers("16: its offset", 3600, () -> desk.ofDate(2, 9));
        Due.answers("16: its moment", 0, () -> desk.ofDate(2, 10));
        Due.answers("16: behind, the day before", -1, () -> desk.dateOf(2, 1, 2));
        Due.answers("16: behind, the local time", 68400, () -> desk.ofDate(2, 12));
        desk.moment(1, -1, 0);
        Due.answers("16: below 0", -1, () -> desk.dateOf(2, 1, 0));
        Due.answers("16: below 0, the local time", 86399, () -> desk.ofDate(2, 12));
        desk.offset(3, 64800);
        desk.moment(1, 1800000000, 999999999);
        Due.answers("16: the last one", 20834, () -> desk.dateOf(3, 1, 3));
        desk.offset(3, -64800);
        desk.moment(1, -1800000000, 0);
        Due.answers("16: the first one", -20835, () -> desk.dateOf(3, 1, 3));
        Due.answers("16: the first one, the local time", 79200, () -> desk.ofDate(3, 12));
        Due.answers("16: nothing was refused", 0, () -> desk.house(1));
        for (int no : NO_DATED) {
            Due.throwsIt("16: dated " + no, desk, Due.NO_SUCH_ONE, () -> desk.dateOf(no, 0, 0));
            Due.throwsIt("16: moment " + no, desk, Due.NO_SUCH_ONE, () -> desk.dateOf(0, no, 0));
            Due.throwsIt("16: offset " + no, desk, Due.NO_SUCH_ONE, () -> desk.dateOf(0, 0, no));
        }
    }

    private static void moveDate() {
        Momentdesk desk = new Momentdesk();
        moves(desk, 2000, 229, 0, 1, false, 20010228);
        moves(desk, 2000, 229, 0, 4, false, 20040229);
        moves(desk, 2000, 229, 0, 1, true, 19990228);
        moves(desk, 2000, 229, 0, -3, true, 20030228);
        moves(desk, 2000, 229, 0, 0, false, 20000229);
        moves(desk, 1910, 101, 0, 120, false, 20300101);
        moves(desk, 2030, 1231, 0, 120, true, 19101231);
        moves(desk, 2024, 131, 1, 1, false, 20240229);
        moves(desk, 2023, 131, 1, 1, false, 20230228);
        moves(desk, 2023, 331, 1, 1, true, 20230228);
        moves(desk, 2023, 131, 1, 3, false, 20230430);
        moves(desk, 2023, 131, 1, 1, true, 20221231);
        moves(desk, 2023, 1231, 1, 1, false, 20240131);
        moves(desk, 2023, 1231, 1, 14, false, 20250228);
        moves(desk, 2023, 131, 1, -23, false, 20210228);
        moves(desk, 1910, 1231, 1, 11, true, 19100131);
        moves(desk, 2024, 222, 2, 1, false, 20240229);
        moves(desk, 2024, 301, 2, 1, true, 20240223);
        moves(desk, 2023, 1231, 3, 1, false, 20240101);
        moves(desk, 2024, 301, 3, 1, true, 20240229);
        moves(desk, 2000, 101, 3, 10000, false, 20270519);
        movesTime(desk, 4, 1, false, 20240310, 46800 + 23, 17);
        movesTime(desk, 4, 12, false, 20240311, 23, 17);
        movesTime(desk, 4, 13, true, 20240309, 82800 + 23, 17);
        movesTime(desk, 5, 720, false, 20240311, 23, 17);
        movesTime(desk, 5, -1, false, 20240310, 43163, 17);
        movesTime(desk, 6, 43177, false, 20240311, 0, 17);
        movesTime(desk, 6, 43224, true, 20240309, 86399, 17);
        movesTime(desk, 6, 43223, true, 20240310, 0, 17);
        movesTime(desk, 7, 17, true, 20240310, 43223, 0);
        movesTime(desk, 7, 18, true, 20240310, 43222, 999999999);
        movesTime(desk, 7, 999999982, false, 20240310, 43223, 999999999);
        movesTime(desk, 7, 999999983, false, 20240310, 43224, 0);
        movesTime(desk, 7, Integer.MIN_VALUE, true, 20240310, 43225, 147483665);
        movesTime(desk, 7, Integer.MIN_VALUE, false, 20240310, 43220, 852516369);
        Due.answers("17: nothing was refused", 0, () -> desk.house(1));
        desk.date(1, 1969, 1224, 0, 0, 0);
        Due.answers("17: -9 is no refusal", -9, () -> desk.moveDate(1, 3, 1, true));
        Due.answers("17: nor is it counted", 0, () -> desk.house(1));
    }

    private static void moves(Momentdesk desk, int year, int day, int unit, int amount, boolean isBack, int want) {
        String what = "17: " + year + " " + day + " moved " + unit + " " + amount + " " + isBack;
        desk.date(2, year, day, 43223, 17, 3);
        Due.answers(what, dayOf(want / 10000, want % 10000), () -> desk.moveDate(2, unit, amount, isBack));
        staysOtherwise(what, desk, want, 43223, 17);
    }

    private static void movesTime(Momentdesk desk, int unit, int amount, boolean isBack, int want, int second, int nano) {
        String what = "17: moved " + unit + " " + amount + " " + isBack;
        desk.date(2, 2024, 310, 43223, 17, 3);
        Due.answers(what, dayOf(want / 10000, want % 10000), () -> desk.moveDate(2, unit, amount, isBack));
        staysOtherwise(what, desk, want, second, nano);
    }

    private static void staysOtherwise(String what, Momentdesk desk, int day, int second, int nano) {
        Due.answers(what + ", its day", day, () -> readDay(desk, 2));
        Due.answers(what + ", its second", second, () -> desk.ofDate(2, 12));
        Due.answers(what + ", its nano", nano, () -> desk.ofDate(2, 7));
        Due.answers(what + ", its offset", 20700, () -> desk.ofDate(2, 9));
    }

    private static void moveDateRefused() {
        Momentdesk desk = new Momentdesk();
        desk.date(0, 2030, 1231, 86399, 999999999, 1);
        desk.date(1, 1910, 101, 0, 0, 1);
        for (int unit = 0; unit <= 7; unit++) {
            int by = unit;
            Due.refuses("17: beyond the last one, unit " + unit, desk, () -> desk.moveDate(0, by, 1, false));
            Due.refuses("17: likewise back, unit " + unit, desk, () -> desk.moveDate(0, by, -1, true));
            Due.refuses("17: before the first one, unit " + unit, desk, () -> desk.moveDate(1, by, 1, true));
            Due.refuses("17: likewise on, unit " + unit, desk, () -> desk.moveDate(1, by, -1, false));
        }
        for (int unit = 0; unit <= 5; unit++) {
            int by = unit;
            for (int amount : new int[] {Integer.MIN_VALUE, Integer.MAX_VALUE}) {
                Due.refuses("17: far on " + unit, desk, () -> desk.moveDate(2, by, amount, false));
                Due.refuses("17: far back " + unit, desk, () -> desk.moveDate(2, by, amount, true));
            }
        }
        Due.answers("17: 2^31 seconds are too many by now", Due.REFUSED, () -> desk.moveDate(2, 6, Integer.MIN_VALUE, true));
        Due.answers("17: but not from 1910 on", 2940, () -> desk.moveDate(1, 6, Integer.MIN_VALUE, true));
        for (int unit : new int[] {-1, 8, Integer.MIN_VALUE, Integer.MAX_VALUE}) {
            Due.throwsIt("17: unit " + unit, desk, Due.BAD_ARGUMENT, () -> desk.moveDate(0, unit, 1, false));
        }
        for (int no : NO_DATED) {
            Due.throwsIt("17: dated " + no, desk, Due.NO_SUCH_ONE, () -> desk.moveDate(no, 0, 0, false));
            Due.throwsIt("17: both wrong " + no, desk, Due.NO_SUCH_ONE, () -> desk.moveDate(no, 8, 0, false));
        }
    }

    private static void set() {
        Momentdesk desk = new Momentdesk();
        sets(desk, 20240229, 0, 2023, 20230228, 43223, 17);
        sets(desk, 20240229, 0, 2028, 20280229, 43223, 17);
        sets(desk, 20240131, 0, 1910, 19100131, 43223, 17);
        sets(desk, 20241231, 0, 2030, 20301231, 43223, 17);
        sets(desk, 20240131, 1, 2, 20240229, 43223, 17);
        sets(desk, 20230131, 1, 2, 20230228, 43223, 17);
        sets(desk, 20230131, 1, 4, 20230430, 43223, 17);
        sets(desk, 20230530, 1, 12, 20231230, 43223, 17);
        sets(desk, 20230530, 1, 1, 20230130, 43223, 17);
        sets(desk, 20230530, 2, 31, 20230531, 43223, 17);
        sets(desk, 20230530, 2, 1, 20230501, 43223, 17);
        sets(desk, 20240201, 2, 29, 20240229, 43223, 17);
        sets(desk, 20240831, 3, 1, 20240101, 43223, 17);
        sets(desk, 20240831, 3, 60, 20240229, 43223, 17);
        sets(desk, 20230831, 3, 60, 20230301, 43223, 17);
        sets(desk, 20240831, 3, 366, 20241231, 43223, 17);
        sets(desk, 20230831, 3, 365, 20231231, 43223, 17);
        sets(desk, 20240310, 4, 0, 20240310, 23, 17);
        sets(desk, 20240310, 4, 23, 20240310, 82823, 17);
        sets(desk, 20240310, 5, 59, 20240310, 46763, 17);
        sets(desk, 20240310, 5, 0, 20240310, 43223, 17);
        sets(desk, 20240310, 6, 59, 20240310, 43259, 17);
        sets(desk, 20240310, 6, 0, 20240310, 43200, 17);
        sets(desk, 20240310, 7, 0, 20240310, 43223, 0);
        sets(desk, 20240310, 7, 999999999, 20240310, 43223, 999999999);
        Due.answers("18: nothing was refused", 0, () -> desk.house(1));
        desk.date(0, 1969, 1201, 3 * 3600 + 25 * 60 + 45, 5, 0);
        Due.answers("18: -9 is no refusal", -9, () -> desk.set(0, 2, 23));
        desk.set(0, 5, 31);
        Due.answers("18: the minute alone", 3 * 3600 + 31 * 60 + 45, () -> desk.ofDate(0, 12));
        desk.set(0, 4, 7);
        Due.answers("18: the hour alone", 7 * 3600 + 31 * 60 + 45, () -> desk.ofDate(0, 12));
    }

    private static void sets(Momentdesk desk, int from, int field, int number, int want, int second, int nano) {
        String what = "18: " + from + " set " + field + " " + number;
        desk.date(2, from / 10000, from % 10000, 43223, 17, 3);
        Due.answers(what, dayOf(want / 10000, want % 10000), () -> desk.set(2, field, number));
        staysOtherwise(what, desk, want, second, nano);
    }

    private static void setRefused() {
        Momentdesk desk = new Momentdesk();
        desk.date(1, 2024, 229, 43223, 17, 3);
        desk.date(2, 2023, 430, 43223, 17, 3);
        int[][] beyond = {{1909, 2031}, {0, 13}, {0, 30}, {0, 367}, {-1, 24}, {-1, 60}, {-1, 60}, {-1, 1000000000}};
        for (int n = 0; n <= 7; n++) {
            int field = n;
            for (int number : new int[] {beyond[n][0], beyond[n][1], Integer.MIN_VALUE, Integer.MAX_VALUE}) {
                Due.refuses("18: set " + field + " " + number, desk, () -> desk.set(1, field, number));
            }
        }
        Due.refuses("18: the 31st of April", desk, () -> desk.set(2, 2, 31));
        Due.refuses("18: the day 366 of 2023", desk, () -> desk.set(2, 3, 366));
        for (int field : new int[] {-1, 8, Integer.MIN_VALUE, Integer.MAX_VALUE}) {
            Due.throwsIt("18: field " + field, desk, Due.BAD_ARGUMENT, () -> desk.set(0, field, 1));
            Due.throwsIt("18: ahead of a refusal " + field, desk, Due.BAD_ARGUMENT, () -> desk.set(0, field, -1));
        }
        for (int no : NO_DATED) {
            Due.throwsIt("18: dated " + no, desk, Due.NO_SUCH_ONE, () -> desk.set(no, 0, 2000));
            Due.throwsIt("18: both wrong " + no, desk, Due.NO_SUCH_ONE, () -> desk.set(no, 8, 2000));
        }
    }

    private static void anew() {
        Momentdesk desk = new Momentdesk();
        desk.date(0, 2020, 1231, 86399, 9, 0);
        Due.answers("19: at the same moment", 18628, () -> desk.anew(0, 1, false));
        Due.answers("19: its local time", 3599, () -> desk.ofDate(0, 12));
        Due.answers("19: its moment", 1609459199, () -> desk.ofDate(0, 10));
        Due.answers("19: its offset", 3600, () -> desk.ofDate(0, 9));
        Due.answers("19: its nano", 9, () -> desk.ofDate(0, 7));
        Due.answers("19: at the same local time", 18628, () -> desk.anew(0, 2, true));
        Due.answers("19: that local time", 3599, () -> desk.ofDate(0, 12));
        Due.answers("19: another moment", 1609459199 + 21600, () -> desk.ofDate(0, 10));
        Due.asks("19: by its own one", desk, 18628, () -> desk.anew(0, 2, false));
        desk.date(1, 2030, 1231, 86399, 999999999, 0);
        Due.refuses("19: beyond the last one", desk, () -> desk.anew(1, 1, false));
        Due.answers("19: the local time can stay", LAST_DAY, () -> desk.anew(1, 1, true));
        Due.answers("19: back of it", LAST_DAY, () -> desk.anew(1, 0, false));
        desk.date(1, 1910, 101, 0, 0, 0);
        Due.refuses("19: before the first one", desk, () -> desk.anew(1, 2, false));
        Due.answers("19: on from it", FIRST_DAY, () -> desk.anew(1, 3, false));
        Due.answers("19: and to it again", FIRST_DAY, () -> desk.anew(1, 0, false));
        for (int no : NO_DATED) {
            Due.throwsIt("19: dated " + no, desk, Due.NO_SUCH_ONE, () -> desk.anew(no, 0, true));
            Due.throwsIt("19: offset " + no, desk, Due.NO_SUCH_ONE, () -> desk.anew(0, no, false));
        }
    }

    private static void copy() {
        Momentdesk desk = new Momentdesk();
        desk.date(1, 2024, 310, 43223, 17, 3);
        Due.answers("20: another one", 19792, () -> desk.copy(3, 1));
        Due.answers("20: the same", true, () -> desk.isDate(3, 1, 3));
        Due.answers("20: its offset", 20700, () -> desk.ofDate(3, 9));
        Due.asks("20: itself", desk, 19792, () -> desk.copy(1, 1));
        desk.moveDate(3, 3, 1, false);
        Due.answers("20: each is moved for itself", 19792, () -> desk.ofDate(1, 11));
        for (int no : NO_DATED) {
            Due.throwsIt("20: dated " + no, desk, Due.NO_SUCH_ONE, () -> desk.copy(no, 1));
            Due.throwsIt("20: from " + no, desk, Due.NO_SUCH_ONE, () -> desk.copy(0, no));
        }
    }

    private static void ofDate() {
        Momentdesk desk = new Momentdesk();
        desk.date(2, 2024, 1231, 86399, 999999999, 2);
        int[] wants = {2024, 12, 31, 366, 23, 59, 59, 999999999, 2, -18000, 1735707599, 20088, 86399};
        for (int n = 0; n < wants.length; n++) {
            int what = n;
            Due.asks("21: ofDate " + what, desk, wants[n], () -> desk.ofDate(2, what));
        }
        desk.date(2, 2030, 1231, 86399, 0, 2);
        Due.asks("21: the SECOND of its moment, above those of MOMENTS", desk, 1925009999, () -> desk.ofDate(2, 10));
        desk.date(2, 1910, 101, 0, 0, 1);
        Due.asks("21: the SECOND of its moment, below them", desk, -1893459600, () -> desk.ofDate(2, 10));
        for (int what : new int[] {-1, 13, Integer.MIN_VALUE, Integer.MAX_VALUE}) {
            Due.throwsIt("21: what " + what, desk, Due.BAD_ARGUMENT, () -> desk.ofDate(0, what));
        }
        for (int no : NO_DATED) {
            Due.throwsIt("21: dated " + no, desk, Due.NO_SUCH_ONE, () -> desk.ofDate(no, 0));
            Due.throwsIt("21: both wrong " + no, desk, Due.NO_SUCH_ONE, () -> desk.ofDate(no, 13));
        }
    }

    private static void ofDateOfEachDay() {
        Momentdesk desk = new Momentdesk();
        desk.date(0, 1910, 101, 0, 0, 0);
        for (int day = FIRST_DAY; day <= LAST_DAY; day++) {
            LocalDate want = LocalDate.ofEpochDay(day);
            Due.is("21: EPOCH DAY", day, desk.ofDate(0, 11));
            Due.is("21: YEAR of " + day, want.getYear(), desk.ofDate(0, 0));
            Due.is("21: MONTH of " + day, want.getMonthValue(), desk.ofDate(0, 1));
            Due.is("21: DAY of " + day, want.getDayOfMonth(), desk.ofDate(0, 2));
            Due.is("21: DAY OF THE YEAR of " + day, want.getDayOfYear(), desk.ofDate(0, 3));
            Due.is("21: DAY OF THE WEEK of " + day, want.getDayOfWeek().getValue(), desk.ofDate(0, 8));
            int read = want.getMonthValue() * 100 + want.getDayOfMonth();
            Due.is("15: the day " + want, day, desk.date(1, want.getYear(), read, 0, 0, 0));
            desk.moveDate(0, 3, 1, false);
        }
    }

    private static void ofDateOfEachMinute() {
        Momentdesk desk = new Momentdesk();
        for (int minute = 0; minute < 1440; minute++) {
            for (int second : new int[] {0, 59}) {
                desk.date(0, 1955, 310, minute * 60 + second, 0, 3);
                Due.is("21: HOUR of " + minute, minute / 60, desk.ofDate(0, 4));
                Due.is("21: MINUTE of " + minute, minute % 60, desk.ofDate(0, 5));
                Due.is("21: SECOND OF THE MINUTE of " + minute, second, desk.ofDate(0, 6));
                Due.is("21: SECOND OF THE DAY of " + minute, minute * 60 + second, desk.ofDate(0, 12));
            }
        }
    }

    private static void orderDate() {
        Momentdesk desk = new Momentdesk();
        desk.date(0, 2024, 310, 3600, 5, 0);
        desk.date(1, 2024, 310, 7200, 5, 1);
        desk.date(2, 2024, 310, 3600, 5, 1);
        desk.date(3, 2024, 310, 3600, 6, 0);
        Due.asks("22: of one moment, by the local time", desk, -1, () -> desk.orderDate(0, 1));
        Due.asks("22: the other way round", desk, 1, () -> desk.orderDate(1, 0));
        Due.asks("22: by the moment", desk, 1, () -> desk.orderDate(0, 2));
        Due.asks("22: by the moment, round", desk, -1, () -> desk.orderDate(2, 0));
        Due.asks("22: by the nano", desk, -1, () -> desk.orderDate(0, 3));
        Due.asks("22: the moment's nano, ahead of the local time", desk, -1, () -> desk.orderDate(1, 3));
        Due.asks("22: itself", desk, 0, () -> desk.orderDate(2, 2));
        desk.copy(3, 1);
        Due.asks("22: the same", desk, 0, () -> desk.orderDate(1, 3));
        desk.date(0, 2024, 311, 0, 0, 1);
        desk.date(1, 2024, 310, 82800, 0, 0);
        Due.asks("22: by the days ahead of the times", desk, 1, () -> desk.orderDate(0, 1));
        desk.date(0, 1910, 101, 0, 0, 1);
        desk.date(1, 2030, 1231, 86399, 0, 2);
        Due.asks("22: both ends", desk, -1, () -> desk.orderDate(0, 1));
        for (int no : NO_DATED) {
            Due.throwsIt("22: dated " + no, desk, Due.NO_SUCH_ONE, () -> desk.orderDate(no, 0));
            Due.throwsIt("22: other " + no, desk, Due.NO_SUCH_ONE, () -> desk.orderDate(0, no));
        }
    }

    private static void isDate() {
        Momentdesk desk = new Momentdesk();
        desk.date(0, 2024, 310, 3600, 5, 0);
        desk.date(1, 2024, 310, 7200, 5, 1);
        desk.date(2, 2024, 310, 3600, 5, 1);
        desk.date(3, 2024, 310, 3600, 6, 0);
        compares(desk, 0, 1, false, false, true, false);
        compares(desk, 1, 0, false, false, true, false);
        compares(desk, 0, 2, false, true, false, false);
        compares(desk, 2, 0, true, false, false, false);
        compares(desk, 0, 3, true, false, false, false);
        compares(desk, 3, 0, false, true, false, false);
        compares(desk, 1, 1, false, false, true, true);
        desk.copy(3, 0);
        compares(desk, 0, 3, false, false, true, true);
        for (int what : new int[] {-1, 4, Integer.MIN_VALUE, Integer.MAX_VALUE}) {
            Due.throwsIt("23: what " + what, desk, Due.BAD_ARGUMENT, () -> desk.isDate(0, 1, what));
        }
        for (int no : NO_DATED) {
            Due.throwsIt("23: dated " + no, desk, Due.NO_SUCH_ONE, () -> desk.isDate(no, 0, 0));
            Due.throwsIt("23: other " + no, desk, Due.NO_SUCH_ONE, () -> desk.isDate(0, no, 0));
            Due.throwsIt("23: both wrong " + no, desk, Due.NO_SUCH_ONE, () -> desk.isDate(0, no, 4));
        }
    }

    private static void compares(Momentdesk desk, int one, int other, boolean... wants) {
        for (int n = 0; n < wants.length; n++) {
            int what = n;
            Due.asks("23: isDate " + one + " " + other + " " + what, desk, wants[n],
                    () -> desk.isDate(one, other, what));
        }
    }
}
