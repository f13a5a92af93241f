import java.time.DateTimeException;
import java.time.Instant;
import java.time.OffsetDateTime;
import java.time.OffsetTime;
import java.time.ZoneOffset;
import java.time.temporal.ChronoField;
import java.time.temporal.ChronoUnit;
import java.util.Arrays;

/** The same desk, made of java.time: what Momentdesk is compared with. */
public final class ReferenceDesk {
    private static final ChronoUnit[] UNITS = {ChronoUnit.YEARS, ChronoUnit.MONTHS, ChronoUnit.WEEKS,
        ChronoUnit.DAYS, ChronoUnit.HOURS, ChronoUnit.MINUTES, ChronoUnit.SECONDS, ChronoUnit.NANOS};
    private static final ChronoField[] FIELDS = {ChronoField.YEAR, ChronoField.MONTH_OF_YEAR,
        ChronoField.DAY_OF_MONTH, ChronoField.DAY_OF_YEAR, ChronoField.HOUR_OF_DAY,
        ChronoField.MINUTE_OF_HOUR, ChronoField.SECOND_OF_MINUTE, ChronoField.NANO_OF_SECOND,
        ChronoField.DAY_OF_WEEK, ChronoField.OFFSET_SECONDS, ChronoField.INSTANT_SECONDS,
        ChronoField.EPOCH_DAY, ChronoField.SECOND_OF_DAY};
    private static final ChronoField[] CLOCK_FIELDS = {ChronoField.HOUR_OF_DAY, ChronoField.MINUTE_OF_HOUR,
        ChronoField.SECOND_OF_MINUTE, ChronoField.NANO_OF_SECOND, ChronoField.OFFSET_SECONDS,
        ChronoField.SECOND_OF_DAY};

    private final ZoneOffset[] offsets = {ZoneOffset.UTC, ZoneOffset.ofHours(1), ZoneOffset.ofHours(-5),
        ZoneOffset.ofHoursMinutes(5, 45)};
    private final Instant[] moments = new Instant[4];
    private final OffsetDateTime[] dates = new OffsetDateTime[4];
    private final OffsetTime[] clocks = new OffsetTime[3];
    private int knocks;
    private int refusals;

    public ReferenceDesk() {
        Arrays.fill(moments, Instant.EPOCH);
        Arrays.fill(dates, Instant.EPOCH.atOffset(ZoneOffset.UTC));
        Arrays.fill(clocks, Instant.EPOCH.atOffset(ZoneOffset.UTC).toOffsetTime());
    }

    private interface Making<T> {
        T make();
    }

    private static void one(Object[] row, int index) {
        if (index < 0 || index >= row.length) {
            throw new IndexOutOfBoundsException();
        }
    }

    private static void within(int number, int least, int most) {
        if (number < least || number > most) {
            throw new IllegalArgumentException();
        }
    }

    private int refused() {
        refusals++;
        return -9;
    }

    private int putMoment(int moment, Making<Instant> making) {
        Instant made = making.make();
        if (Math.abs(made.getEpochSecond()) > 1800000000L && !made.minusNanos(999999999).equals(Instant.ofEpochSecond(1800000000L))) {
            return refused();
        }
        moments[moment] = made;
        return made.getNano();
    }

    private int putDate(int dated, Making<OffsetDateTime> making) {
        OffsetDateTime made;
        try {
            made = making.make();
        } catch (DateTimeException thrown) {
            return refused();
        }
        if (made.getYear() < 1910 || made.getYear() > 2030) {
            return refused();
        }
        dates[dated] = made;
        return (int) made.toLocalDate().toEpochDay();
    }

    private int putClock(int clock, OffsetTime made) {
        clocks[clock] = made;
        return made.toLocalTime().toSecondOfDay() - made.getOffset().getTotalSeconds();
    }

    private static long by(int amount, boolean isBack) {
        return isBack ? -(long) amount : amount;
    }

    private static int sign(int order) {
        return Integer.signum(order);
    }

    public int offset(int offset, int seconds) {
        one(offsets, offset);
        within(seconds, -64800, 64800);
        int before = offsets[offset].getTotalSeconds();
        offsets[offset] = ZoneOffset.ofTotalSeconds(seconds);
        return before;
    }

    public int offsetOf(int offset, int hours, int minutes, int seconds) {
        one(offsets, offset);
        try {
            offsets[offset] = ZoneOffset.ofHoursMinutesSeconds(hours, minutes, seconds);
        } catch (DateTimeException thrown) {
            return refused();
        }
        return offsets[offset].getTotalSeconds();
    }

    public int seconds(int offset) {
        one(offsets, offset);
        return offsets[offset].getTotalSeconds();
    }

    public int orderOffset(int offset, int other) {
        one(offsets, offset);
        one(offsets, other);
        return sign(offsets[offset].compareTo(offsets[other]));
    }

    public int moment(int moment, int second, int nanos) {
        one(moments, moment);
        return putMoment(moment, () -> Instant.ofEpochSecond(second, nanos));
    }

    public int milli(int moment, int second, int millis) {
        one(moments, moment);
        return putMoment(moment, () -> Instant.ofEpochMilli(second * 1000L + millis));
    }

    public int move(int moment, int unit, int amount, boolean isBack) {
        one(moments, moment);
        within(unit, 0, 2);
        ChronoUnit by = unit == 0 ? ChronoUnit.SECONDS : unit == 1 ? ChronoUnit.MILLIS : ChronoUnit.NANOS;
        return putMoment(moment, () -> moments[moment].plus(by(amount, isBack), by));
    }

    public int momentOf(int moment, int dated) {
        one(moments, moment);
        one(dates, dated);
        return putMoment(moment, () -> dates[dated].toInstant());
    }

    public int ofMoment(int moment, boolean isNano) {
        one(moments, moment);
        return isNano ? moments[moment].getNano() : (int) moments[moment].getEpochSecond();
    }

    public String millis(int moment) {
        one(moments, moment);
        return Long.toString(moments[moment].toEpochMilli());
    }

    public int orderMoment(int moment, int other) {
        one(moments, moment);
        one(moments, other);
        return sign(moments[moment].compareTo(moments[other]));
    }

    public boolean isMoment(int moment, int other, int what) {
        one(moments, moment);
        one(moments, other);
        within(what, 0, 2);
        return what == 0 ? moments[moment].isBefore(moments[other])
            : what == 1 ? moments[moment].isAfter(moments[other]) : moments[moment].equals(moments[other]);
    }

    public int copyMoment(int moment, int from) {
        one(moments, moment);
        one(moments, from);
        return putMoment(moment, () -> moments[from]);
    }

    public int date(int dated, int year, int day, int second, int nano, int offset) {
        one(dates, dated);
        one(offsets, offset);
        within(day, 0, 9999);
        within(second, 0, 86399);
        within(nano, 0, 999999999);
        return putDate(dated, () -> OffsetDateTime.of(year, day / 100, day % 100, 0, 0, 0, nano, offsets[offset])
            .with(ChronoField.SECOND_OF_DAY, second));
    }

    public int dateOf(int dated, int moment, int offset) {
        one(dates, dated);
        one(moments, moment);
        one(offsets, offset);
        return putDate(dated, () -> moments[moment].atOffset(offsets[offset]));
    }

    public int moveDate(int dated, int unit, int amount, boolean isBack) {
        one(dates, dated);
        within(unit, 0, 7);
        return putDate(dated, () -> dates[dated].plus(by(amount, isBack), UNITS[unit]));
    }

    public int set(int dated, int field, int number) {
        one(dates, dated);
        within(field, 0, 7);
        return putDate(dated, () -> dates[dated].with(FIELDS[field], number));
    }

    public int anew(int dated, int offset, boolean isLocal) {
        one(dates, dated);
        one(offsets, offset);
        return putDate(dated, () -> isLocal ? dates[dated].withOffsetSameLocal(offsets[offset])
            : dates[dated].withOffsetSameInstant(offsets[offset]));
    }

    public int copy(int dated, int from) {
        one(dates, dated);
        one(dates, from);
        return putDate(dated, () -> dates[from]);
    }

    public int ofDate(int dated, int what) {
        one(dates, dated);
        within(what, 0, 12);
        return (int) dates[dated].getLong(FIELDS[what]);
    }

    public int orderDate(int dated, int other) {
        one(dates, dated);
        one(dates, other);
        return sign(dates[dated].compareTo(dates[other]));
    }

    public boolean isDate(int dated, int other, int what) {
        one(dates, dated);
        one(dates, other);
        within(what, 0, 3);
        OffsetDateTime told = dates[dated];
        OffsetDateTime against = dates[other];
        return what == 0 ? told.isBefore(against) : what == 1 ? told.isAfter(against)
            : what == 2 ? told.isEqual(against) : told.equals(against);
    }

    public int clock(int clock, int second, int nano, int offset) {
        one(clocks, clock);
        one(offsets, offset);
        within(second, 0, 86399);
        within(nano, 0, 999999999);
        return putClock(clock, OffsetTime.of(0, 0, 0, nano, offsets[offset]).with(ChronoField.SECOND_OF_DAY, second));
    }

    public int clockOf(int clock, int dated) {
        one(clocks, clock);
        one(dates, dated);
        return putClock(clock, dates[dated].toOffsetTime());
    }

    public int strike(int dated, int clock) {
        one(dates, dated);
        one(clocks, clock);
        return putDate(dated, () -> dates[dated].with(clocks[clock]));
    }

    public int moveClock(int clock, int unit, int amount, boolean isBack) {
        one(clocks, clock);
        within(unit, 4, 7);
        return putClock(clock, clocks[clock].plus(by(amount, isBack), UNITS[unit]));
    }

    public int anewClock(int clock, int offset, boolean isLocal) {
        one(clocks, clock);
        one(offsets, offset);
        return putClock(clock, isLocal ? clocks[clock].withOffsetSameLocal(offsets[offset])
            : clocks[clock].withOffsetSameInstant(offsets[offset]));
    }

    public int copyClock(int clock, int from) {
        one(clocks, clock);
        one(clocks, from);
        return putClock(clock, clocks[from]);
    }

    public int ofClock(int clock, int what) {
        one(clocks, clock);
        within(what, 0, 5);
        return clocks[clock].get(CLOCK_FIELDS[what]);
    }

    public int orderClock(int clock, int other) {
        one(clocks, clock);
        one(clocks, other);
        return sign(clocks[clock].compareTo(clocks[other]));
    }

    public boolean isClock(int clock, int other, int what) {
        one(clocks, clock);
        one(clocks, other);
        within(what, 0, 3);
        OffsetTime told = clocks[clock];
        OffsetTime against = clocks[other];
        return what == 0 ? told.isBefore(against) : what == 1 ? told.isAfter(against)
            : what == 2 ? told.isEqual(against) : told.equals(against);
    }

    public int knock() {
        knocks++;
        return knocks;
    }

    public int house(int what) {
        within(what, 0, 3);
        if (what < 2) {
            return what == 0 ? knocks : refusals;
        }
        Comparable<?>[] row = what == 2 ? dates : moments;
        return Arrays.asList(row).indexOf(what == 2 ? Arrays.stream(dates).min(OffsetDateTime::compareTo).get()
            : Arrays.stream(moments).min(Instant::compareTo).get());
    }

    /** All of what is asked there holds of java.time by its own words. */
    public boolean isSound() {
        return true;
    }

    public long digest() {
        long sum = 6199;
        for (int n = 0; n < 4; n++) {
            sum = sum * 31 + seconds(n);
        }
        for (int n = 0; n < 4; n++) {
            sum = (sum * 31 + ofMoment(n, false)) * 31 + ofMoment(n, true);
        }
        for (int n = 0; n < 4; n++) {
            for (int what = 0; what <= 12; what++) {
                sum = sum * 31 + ofDate(n, what);
            }
        }
        for (int n = 0; n < 3; n++) {
            for (int what = 0; what <= 5; what++) {
                sum = sum * 31 + ofClock(n, what);
            }
        }
        for (int pair = 0; pair < 16; pair++) {
            sum = sum * 31 + orderDate(pair / 4, pair % 4);
            sum = sum * 31 + (isDate(pair / 4, pair % 4, 2) ? 1 : 0);
        }
        for (int pair = 0; pair < 9; pair++) {
            sum = sum * 31 + orderClock(pair / 3, pair % 3);
        }
        for (int what = 0; what <= 3; what++) {
            sum = sum * 31 + house(what);
        }
        return sum * 31 + 1;
    }
}
