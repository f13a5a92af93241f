/**
 * A desk of moments, of dates with a time and an offset, of times of the day with an offset, and of
 * offsets. The document's words in capitals (OFFSET, MOMENT, DATED, CLOCK ..) are used in its sense.
 */
public final class Momentdesk {
    private static final int REFUSED = -9;

    private static final int MOST_OFFSET = 64800;
    private static final int MOST_HOURS = 18;
    private static final int MOST_SIXTIETH = 59;
    private static final int MOST_SECOND_OF_DAY = 86399;
    private static final int MOST_NANO = 999999999;

    private static final long SECOND_NANOS = 1000000000L;
    private static final long MILLI_NANOS = 1000000L;
    private static final long LEAST_NUMBER = -1800000000L * SECOND_NANOS;
    private static final long MOST_NUMBER = 1800000000L * SECOND_NANOS + MOST_NANO;

    private static final long DAY_SECONDS = 86400L;
    private static final long HOUR_SECONDS = 3600L;
    private static final long MINUTE_SECONDS = 60L;
    private static final long YEAR_MONTHS = 12L;

    private static final int FIRST_YEAR = 1910;
    private static final int LAST_YEAR = 2030;
    private static final int FIRST_DAY = -21915;
    private static final int LAST_DAY = 22279;
    private static final long FIRST_SECOND = FIRST_DAY * DAY_SECONDS;
    private static final long LAST_SECOND = LAST_DAY * DAY_SECONDS + MOST_SECOND_OF_DAY;

    private static final int UNIT_YEARS = 0;
    private static final int UNIT_MONTHS = 1;
    private static final int UNIT_HOURS = 4;
    private static final int UNIT_NANOS = 7;

    private static final int DATE_PARTS = 13;
    private static final int CLOCK_PARTS = 6;
    private static final int HOUSE_PARTS = 4;
    private static final long DIGEST_BEGIN = 6199L;
    private static final int MOST_DIGITS = 19;

    private final int[] offsets;
    private final long[] numbers;
    private final Local[] dates;
    private final Local[] clocks;
    // isSound() tries its calls on these two, so that no call has to make new ones.
    private final Local triedDated;
    private final Local triedClock;
    private int knocks;
    private int refusals;

    public Momentdesk() {
        offsets = new int[] {0, 3600, -18000, 20700};
        numbers = new long[] {0L, 0L, 0L, 0L};
        dates = new Local[] {new Local(), new Local(), new Local(), new Local()};
        clocks = new Local[] {new Local(), new Local(), new Local()};
        triedDated = new Local();
        triedClock = new Local();
    }

    // ---- offsets

    public int offset(int offset, int seconds) throws IndexOutOfBoundsException, IllegalArgumentException {
        requireOne(offset, offsets.length);
        requireWithin(seconds, -MOST_OFFSET, MOST_OFFSET);
        int before = offsets[offset];
        offsets[offset] = seconds;
        return before;
    }

    public int offsetOf(int offset, int hours, int minutes, int seconds) throws IndexOutOfBoundsException {
        requireOne(offset, offsets.length);
        if (!isWithin(hours, -MOST_HOURS, MOST_HOURS)
                || !isWithin(minutes, -MOST_SIXTIETH, MOST_SIXTIETH)
                || !isWithin(seconds, -MOST_SIXTIETH, MOST_SIXTIETH)) {
            return refused();
        }
        boolean isOneAbove = hours > 0 || minutes > 0 || seconds > 0;
        boolean isOneBelow = hours < 0 || minutes < 0 || seconds < 0;
        int told = hours * 3600 + minutes * 60 + seconds;
        if ((isOneAbove && isOneBelow) || !isWithin(told, -MOST_OFFSET, MOST_OFFSET)) {
            return refused();
        }
        offsets[offset] = told;
        return told;
    }

    public int seconds(int offset) throws IndexOutOfBoundsException {
        requireOne(offset, offsets.length);
        return offsets[offset];
    }

    public int orderOffset(int offset, int other) throws IndexOutOfBoundsException {
        // Of two OFFSETS the greater one is AHEAD: hence the other way round.
        return compared(seconds(other), seconds(offset));
    }

    // ---- moments

    public int moment(int moment, int second, int nanos) throws IndexOutOfBoundsException {
        requireOne(moment, numbers.length);
        return putNumber(moment, second * SECOND_NANOS + nanos);
    }

    public int milli(int moment, int second, int millis) throws IndexOutOfBoundsException {
        requireOne(moment, numbers.length);
        return putNumber(moment, second * SECOND_NANOS + millis * MILLI_NANOS);
    }

    public int move(int moment, int unit, int amount, boolean isBack)
            throws IndexOutOfBoundsException, IllegalArgumentException {
        requireOne(moment, numbers.length);
        requireWithin(unit, 0, 2);
        long unitNanos = unit == 0 ? SECOND_NANOS : unit == 1 ? MILLI_NANOS : 1L;
        return putNumber(moment, numbers[moment] + signed(amount, isBack) * unitNanos);
    }

    public int momentOf(int moment, int dated) throws IndexOutOfBoundsException {
        requireOne(moment, numbers.length);
        return putNumber(moment, numberOf(at(dates, dated)));
    }

    public int ofMoment(int moment, boolean isNano) throws IndexOutOfBoundsException {
        requireOne(moment, numbers.length);
        return isNano ? nanoOf(numbers[moment]) : (int) secondOf(numbers[moment]);
    }

    public String millis(int moment) throws IndexOutOfBoundsException {
        requireOne(moment, numbers.length);
        return textOf(Math.floorDiv(numbers[moment], MILLI_NANOS));
    }

    public int orderMoment(int moment, int other) throws IndexOutOfBoundsException {
        requireOne(moment, numbers.length);
        requireOne(other, numbers.length);
        return compared(numbers[moment], numbers[other]);
    }

    public boolean isMoment(int moment, int other, int what)
            throws IndexOutOfBoundsException, IllegalArgumentException {
        int order = orderMoment(moment, other);
        requireWithin(what, 0, 2);
        return what == 0 ? order < 0 : what == 1 ? order > 0 : order == 0;
    }

    public int copyMoment(int moment, int from) throws IndexOutOfBoundsException {
        requireOne(moment, numbers.length);
        requireOne(from, numbers.length);
        return putNumber(moment, numbers[from]);
    }

    // ---- dated

    public int date(int dated, int year, int day, int second, int nano, int offset)
            throws IndexOutOfBoundsException, IllegalArgumentException {
        Local told = at(dates, dated);
        int ahead = seconds(offset);
        requireWithin(day, 0, 9999);
        requireWithin(second, 0, MOST_SECOND_OF_DAY);
        requireWithin(nano, 0, MOST_NANO);
        int month = day / 100;
        int dayOfMonth = day % 100;
        if (!isWithin(year, FIRST_YEAR, LAST_YEAR) || !Calendar.isDay(year, month, dayOfMonth)) {
            return refused();
        }
        return putLocal(told, Calendar.dayOf(year, month, dayOfMonth) * DAY_SECONDS + second, nano, ahead);
    }

    public int dateOf(int dated, int moment, int offset) throws IndexOutOfBoundsException {
        Local told = at(dates, dated);
        requireOne(moment, numbers.length);
        int ahead = seconds(offset);
        long number = numbers[moment];
        return putLocal(told, secondOf(number) + ahead, nanoOf(number), ahead);
    }

    public int moveDate(int dated, int unit, int amount, boolean isBack)
            throws IndexOutOfBoundsException, IllegalArgumentException {
        Local told = at(dates, dated);
        requireWithin(unit, UNIT_YEARS, UNIT_NANOS);
        long by = signed(amount, isBack);
        if (unit == UNIT_YEARS) {
            return putMonths(told, told.months() + by * YEAR_MONTHS);
        }
        if (unit == UNIT_MONTHS) {
            return putMonths(told, told.months() + by);
        }
        return putLocal(told, told.second + secondsOn(told, unit, by), nanoOn(told, unit, by), told.offset);
    }

    public int set(int dated, int field, int number) throws IndexOutOfBoundsException, IllegalArgumentException {
        Local told = at(dates, dated);
        requireWithin(field, 0, 7);
        return field <= 3 ? setOfDay(told, field, number) : setOfTime(told, field, number);
    }

    public int anew(int dated, int offset, boolean isLocal) throws IndexOutOfBoundsException {
        Local told = at(dates, dated);
        int ahead = seconds(offset);
        long second = isLocal ? told.second : told.momentSecond() + ahead;
        return putLocal(told, second, told.nano, ahead);
    }

    public int copy(int dated, int from) throws IndexOutOfBoundsException {
        Local told = at(dates, dated);
        Local other = at(dates, from);
        return putLocal(told, other.second, other.nano, other.offset);
    }

    public int ofDate(int dated, int what) throws IndexOutOfBoundsException, IllegalArgumentException {
        Local told = at(dates, dated);
        requireWithin(what, 0, DATE_PARTS - 1);
        return datePart(told, what);
    }

    public int orderDate(int dated, int other) throws IndexOutOfBoundsException {
        return at(dates, dated).orderTo(at(dates, other));
    }

    public boolean isDate(int dated, int other, int what)
            throws IndexOutOfBoundsException, IllegalArgumentException {
        Local told = at(dates, dated);
        Local against = at(dates, other);
        requireWithin(what, 0, 3);
        return isSo(told, against, what);
    }

    // ---- clocks

    public int clock(int clock, int second, int nano, int offset)
            throws IndexOutOfBoundsException, IllegalArgumentException {
        Local told = at(clocks, clock);
        int ahead = seconds(offset);
        requireWithin(second, 0, MOST_SECOND_OF_DAY);
        requireWithin(nano, 0, MOST_NANO);
        return putClock(told, second, nano, ahead);
    }

    public int clockOf(int clock, int dated) throws IndexOutOfBoundsException {
        Local told = at(clocks, clock);
        Local from = at(dates, dated);
        return putClock(told, from.second, from.nano, from.offset);
    }

    public int strike(int dated, int clock) throws IndexOutOfBoundsException {
        Local told = at(dates, dated);
        Local from = at(clocks, clock);
        return putLocal(told, told.beginOfDay() + from.second, from.nano, from.offset);
    }

    public int moveClock(int clock, int unit, int amount, boolean isBack)
            throws IndexOutOfBoundsException, IllegalArgumentException {
        Local told = at(clocks, clock);
        requireWithin(unit, UNIT_HOURS, UNIT_NANOS);
        long by = signed(amount, isBack);
        return putClock(told, told.second + secondsOn(told, unit, by), nanoOn(told, unit, by), told.offset);
    }

    public int anewClock(int clock, int offset, boolean isLocal) throws IndexOutOfBoundsException {
        Local told = at(clocks, clock);
        int ahead = seconds(offset);
        long second = isLocal ? told.second : told.momentSecond() + ahead;
        return putClock(told, second, told.nano, ahead);
    }

    public int copyClock(int clock, int from) throws IndexOutOfBoundsException {
        Local told = at(clocks, clock);
        Local other = at(clocks, from);
        return putClock(told, other.second, other.nano, other.offset);
    }

    public int ofClock(int clock, int what) throws IndexOutOfBoundsException, IllegalArgumentException {
        Local told = at(clocks, clock);
        requireWithin(what, 0, CLOCK_PARTS - 1);
        return clockPart(told, what);
    }

    public int orderClock(int clock, int other) throws IndexOutOfBoundsException {
        return at(clocks, clock).orderTo(at(clocks, other));
    }

    public boolean isClock(int clock, int other, int what)
            throws IndexOutOfBoundsException, IllegalArgumentException {
        Local told = at(clocks, clock);
        Local against = at(clocks, other);
        requireWithin(what, 0, 3);
        return isSo(told, against, what);
    }

    // ---- the desk

    public int knock() {
        knocks++;
        return knocks;
    }

    public int house(int what) throws IllegalArgumentException {
        requireWithin(what, 0, HOUSE_PARTS - 1);
        switch (what) {
            case 0: return knocks;
            case 1: return refusals;
            case 2: return firstDated();
            default: return firstMoment();
        }
    }

    public boolean isSound() {
        return areMomentsSound() && areDatesToldAnewSound() && arePairsSound() && areStrikesSound();
    }

    public long digest() {
        long sum = DIGEST_BEGIN;
        sum = withOffsets(sum);
        sum = withMoments(sum);
        sum = withDates(sum);
        sum = withClocks(sum);
        sum = withDatePairs(sum);
        sum = withClockPairs(sum);
        sum = withHouse(sum);
        return added(sum, isSound() ? 1 : 0);
    }

    // ---- what is asked of the arguments

    private static void requireOne(int index, int count) {
        if (index < 0 || index >= count) {
            throw new IndexOutOfBoundsException("there is no such one");
        }
    }

    private static void requireWithin(int number, int least, int most) {
        if (!isWithin(number, least, most)) {
            throw new IllegalArgumentException("a number is not within its limits");
        }
    }

    private static boolean isWithin(long number, long least, long most) {
        return number >= least && number <= most;
    }

    private static Local at(Local[] row, int index) {
        if (index < 0 || index >= row.length || row[index] == null) {
            throw new IndexOutOfBoundsException("there is no such one");
        }
        return row[index];
    }

    /** The amount to move by; as a long, since the least int has no int of the other sign. */
    private static long signed(int amount, boolean isBack) {
        return isBack ? -(long) amount : amount;
    }

    private static int compared(long one, long other) {
        return one < other ? -1 : one > other ? 1 : 0;
    }

    // ---- what becomes of a call: every change but that of an OFFSET goes through one of the three put..

    private int refused() {
        refusals++;
        return REFUSED;
    }

    private int putNumber(int moment, long number) {
        requireOne(moment, numbers.length);
        if (!isWithin(number, LEAST_NUMBER, MOST_NUMBER)) {
            return refused();
        }
        numbers[moment] = number;
        return nanoOf(number);
    }

    private int putLocal(Local told, long second, int nano, int offset) {
        if (!isWithin(second, FIRST_SECOND, LAST_SECOND)) {
            return refused();
        }
        told.tell(second, nano, offset);
        return told.day();
    }

    private int putClock(Local told, long second, int nano, int offset) {
        told.tell(Math.floorMod(second, DAY_SECONDS), nano, offset);
        return (int) told.momentSecond();
    }

    // ---- moments

    private static long secondOf(long number) {
        return Math.floorDiv(number, SECOND_NANOS);
    }

    private static int nanoOf(long number) {
        return (int) Math.floorMod(number, SECOND_NANOS);
    }

    private static long numberOf(Local told) {
        return told.momentSecond() * SECOND_NANOS + told.nano;
    }

    private static String textOf(long number) {
        StringBuilder text = new StringBuilder();
        long rest = Math.abs(number);
        for (int digit = 0; digit < MOST_DIGITS && (digit == 0 || rest > 0); digit++) {
            text.append((char) ('0' + rest % 10));
            rest = rest / 10;
        }
        if (number < 0) {
            text.append('-');
        }
        return text.reverse().toString();
    }

    private int firstMoment() {
        int first = 0;
        for (int moment = 1; moment < numbers.length; moment++) {
            if (numbers[moment] < numbers[first]) {
                first = moment;
            }
        }
        return first;
    }

    // ---- moving

    /** By how many seconds the local time goes on; moving by nanos may lead over a second's end. */
    private static long secondsOn(Local told, int unit, long by) {
        switch (unit) {
            case 2: return by * 7 * DAY_SECONDS;
            case 3: return by * DAY_SECONDS;
            case 4: return by * HOUR_SECONDS;
            case 5: return by * MINUTE_SECONDS;
            case 6: return by;
            default: return secondOf(told.nano + by);
        }
    }

    private static int nanoOn(Local told, int unit, long by) {
        return unit == UNIT_NANOS ? nanoOf(told.nano + by) : told.nano;
    }

    /** Puts the year and the month of these months since the year 0; the day is kept within that month. */
    private int putMonths(Local told, long months) {
        long year = Math.floorDiv(months, YEAR_MONTHS);
        if (!isWithin(year, FIRST_YEAR, LAST_YEAR)) {
            return refused();
        }
        int month = (int) Math.floorMod(months, YEAR_MONTHS) + 1;
        int most = Calendar.lengthOfMonth((int) year, month);
        int dayOfMonth = Math.min(Calendar.dayOfMonth(told.day()), most);
        return putDay(told, Calendar.dayOf((int) year, month, dayOfMonth));
    }

    private int putDay(Local told, int day) {
        return putLocal(told, day * DAY_SECONDS + told.secondOfDay(), told.nano, told.offset);
    }

    // ---- setting

    private int setOfDay(Local told, int field, int number) {
        int year = Calendar.yearOf(told.day());
        int month = Calendar.monthOf(told.day());
        switch (field) {
            case 0:
                return putMonths(told, number * YEAR_MONTHS + month - 1);
            case 1:
                return isWithin(number, 1, YEAR_MONTHS)
                        ? putMonths(told, year * YEAR_MONTHS + number - 1) : refused();
            case 2:
                return isWithin(number, 1, Calendar.lengthOfMonth(year, month))
                        ? putDay(told, Calendar.dayOf(year, month, number)) : refused();
            default:
                return isWithin(number, 1, Calendar.lengthOfYear(year))
                        ? putDay(told, Calendar.firstDayOf(year) + number - 1) : refused();
        }
    }

    private int setOfTime(Local told, int field, int number) {
        switch (field) {
            case 4: return setPart(told, number, 23, told.hour(), HOUR_SECONDS);
            case 5: return setPart(told, number, 59, told.minute(), MINUTE_SECONDS);
            case 6: return setPart(told, number, 59, told.secondOfMinute(), 1L);
            default: return isWithin(number, 0, MOST_NANO)
                    ? putLocal(told, told.second, number, told.offset) : refused();
        }
    }

    private int setPart(Local told, int number, int most, int now, long length) {
        if (!isWithin(number, 0, most)) {
            return refused();
        }
        return putLocal(told, told.second + (number - now) * length, told.nano, told.offset);
    }

    // ---- parts, orders

    private static int datePart(Local told, int what) {
        int day = told.day();
        switch (what) {
            case 0: return Calendar.yearOf(day);
            case 1: return Calendar.monthOf(day);
            case 2: return Calendar.dayOfMonth(day);
            case 3: return Calendar.dayOfYear(day);
            case 4: return told.hour();
            case 5: return told.minute();
            case 6: return told.secondOfMinute();
            case 7: return told.nano;
            case 8: return Calendar.dayOfWeek(day);
            case 9: return told.offset;
            case 10: return (int) told.momentSecond();
            case 11: return day;
            default: return told.secondOfDay();
        }
    }

    private static int clockPart(Local told, int what) {
        switch (what) {
            case 0: return told.hour();
            case 1: return told.minute();
            case 2: return told.secondOfMinute();
            case 3: return told.nano;
            case 4: return told.offset;
            default: return told.secondOfDay();
        }
    }

    private static boolean isSo(Local told, Local other, int what) {
        switch (what) {
            case 0: return told.isAhead(other);
            case 1: return other.isAhead(told);
            case 2: return told.isAlike(other);
            default: return told.isSame(other);
        }
    }

    private int firstDated() {
        int first = 0;
        for (int dated = 1; dated < dates.length; dated++) {
            if (at(dates, dated).orderTo(at(dates, first)) < 0) {
                first = dated;
            }
        }
        return first;
    }

    // ---- whether the desk is sound

    private boolean areMomentsSound() {
        for (int moment = 0; moment < numbers.length; moment++) {
            long number = numbers[moment];
            for (int offset = 0; offset < offsets.length; offset++) {
                triedDated.tell(secondOf(number) + offsets[offset], nanoOf(number), offsets[offset]);
                if (numberOf(triedDated) != number) {
                    return false;
                }
            }
        }
        return true;
    }

    private boolean areDatesToldAnewSound() {
        for (int dated = 0; dated < dates.length; dated++) {
            for (int offset = 0; offset < offsets.length; offset++) {
                if (!isToldAnewSound(at(dates, dated), offsets[offset])) {
                    return false;
                }
            }
        }
        return true;
    }

    private boolean isToldAnewSound(Local told, int ahead) {
        long second = told.momentSecond() + ahead;
        if (!isWithin(second, FIRST_SECOND, LAST_SECOND)) {
            return true;
        }
        triedDated.tell(second, told.nano, ahead);
        boolean isAlike = triedDated.isAlike(told);
        triedDated.tell(triedDated.momentSecond() + told.offset, triedDated.nano, told.offset);
        return isAlike && triedDated.isSame(told);
    }

    private boolean arePairsSound() {
        for (int dated = 0; dated < dates.length; dated++) {
            for (int other = 0; other < dates.length; other++) {
                if (!isPairSound(at(dates, dated), at(dates, other))) {
                    return false;
                }
            }
        }
        return true;
    }

    private static boolean isPairSound(Local told, Local other) {
        boolean isNoneAhead = !told.isAhead(other) && !other.isAhead(told);
        int order = told.orderTo(other);
        return told.isAlike(other) == isNoneAhead
                && order == -other.orderTo(told)
                && (!told.isSame(other) || order == 0);
    }

    private boolean areStrikesSound() {
        for (int dated = 0; dated < dates.length; dated++) {
            Local told = at(dates, dated);
            triedClock.tell(told.secondOfDay(), told.nano, told.offset);
            triedDated.tell(told.beginOfDay() + triedClock.second, triedClock.nano, triedClock.offset);
            if (!triedDated.isSame(told)) {
                return false;
            }
        }
        return true;
    }

    // ---- the digest

    private static long added(long sum, long value) {
        return sum * 31 + value;
    }

    private long withOffsets(long begin) {
        long sum = begin;
        for (int offset = 0; offset < offsets.length; offset++) {
            sum = added(sum, seconds(offset));
        }
        return sum;
    }

    private long withMoments(long begin) {
        long sum = begin;
        for (int moment = 0; moment < numbers.length; moment++) {
            sum = added(sum, ofMoment(moment, false));
            sum = added(sum, ofMoment(moment, true));
        }
        return sum;
    }

    private long withDates(long begin) {
        long sum = begin;
        for (int dated = 0; dated < dates.length; dated++) {
            for (int what = 0; what < DATE_PARTS; what++) {
                sum = added(sum, datePart(at(dates, dated), what));
            }
        }
        return sum;
    }

    private long withClocks(long begin) {
        long sum = begin;
        for (int clock = 0; clock < clocks.length; clock++) {
            for (int what = 0; what < CLOCK_PARTS; what++) {
                sum = added(sum, clockPart(at(clocks, clock), what));
            }
        }
        return sum;
    }

    private long withDatePairs(long begin) {
        long sum = begin;
        for (int dated = 0; dated < dates.length; dated++) {
            for (int other = 0; other < dates.length; other++) {
                sum = added(sum, at(dates, dated).orderTo(at(dates, other)));
                sum = added(sum, at(dates, dated).isAlike(at(dates, other)) ? 1 : 0);
            }
        }
        return sum;
    }

    private long withClockPairs(long begin) {
        long sum = begin;
        for (int clock = 0; clock < clocks.length; clock++) {
            for (int other = 0; other < clocks.length; other++) {
                sum = added(sum, at(clocks, clock).orderTo(at(clocks, other)));
            }
        }
        return sum;
    }

    private long withHouse(long begin) {
        long sum = begin;
        for (int what = 0; what < HOUSE_PARTS; what++) {
            sum = added(sum, house(what));
        }
        return sum;
    }

    /** A local time with an offset: a DATED, or a CLOCK, which is always at the epoch day 0. */
    private static final class Local {
        // Since the beginning of the epoch day 0, by local time.
        private long second;
        private int nano;
        private int offset;

        void tell(long newSecond, int newNano, int newOffset) {
            second = newSecond;
            nano = newNano;
            offset = newOffset;
        }

        int day() {
            return (int) Math.floorDiv(second, DAY_SECONDS);
        }

        long beginOfDay() {
            return day() * DAY_SECONDS;
        }

        /** The months since the year 0. */
        long months() {
            return Calendar.yearOf(day()) * YEAR_MONTHS + Calendar.monthOf(day()) - 1;
        }

        int secondOfDay() {
            return (int) Math.floorMod(second, DAY_SECONDS);
        }

        int hour() {
            return secondOfDay() / 3600;
        }

        int minute() {
            return secondOfDay() / 60 % 60;
        }

        int secondOfMinute() {
            return secondOfDay() % 60;
        }

        long momentSecond() {
            return second - offset;
        }

        boolean isAhead(Local other) {
            return momentOrder(other) < 0;
        }

        boolean isAlike(Local other) {
            return momentSecond() == other.momentSecond() && nano == other.nano;
        }

        boolean isSame(Local other) {
            return second == other.second && nano == other.nano && offset == other.offset;
        }

        int momentOrder(Local other) {
            int order = compared(momentSecond(), other.momentSecond());
            return order != 0 ? order : compared(nano, other.nano);
        }

        int orderTo(Local other) {
            int order = momentOrder(other);
            // Of one moment they have one nano, too: their local times differ by whole seconds.
            return order != 0 ? order : compared(second, other.second);
        }
    }

    /** The days of the calendar, as epoch days; for the years that a DATED can have, and these days alone. */
    private static final class Calendar {
        // From the 1st of January of the year 1 to that of 1970.
        private static final int DAYS_BEFORE_1970 = 719162;

        static boolean isLeap(int year) {
            return year % 4 == 0 && (year % 100 != 0 || year % 400 == 0);
        }

        static int lengthOfYear(int year) {
            return isLeap(year) ? 366 : 365;
        }

        static int lengthOfMonth(int year, int month) {
            switch (month) {
                case 2: return isLeap(year) ? 29 : 28;
                case 4: case 6: case 9: case 11: return 30;
                default: return 31;
            }
        }

        static boolean isDay(int year, int month, int dayOfMonth) {
            return isWithin(month, 1, YEAR_MONTHS) && isWithin(dayOfMonth, 1, lengthOfMonth(year, month));
        }

        static int firstDayOf(int year) {
            int before = year - 1;
            return before * 365 + before / 4 - before / 100 + before / 400 - DAYS_BEFORE_1970;
        }

        static int daysBeforeMonth(int year, int month) {
            // If the February had 30 days, the months would begin along this line.
            int days = (367 * month - 362) / 12;
            return month <= 2 ? days : isLeap(year) ? days - 1 : days - 2;
        }

        static int dayOf(int year, int month, int dayOfMonth) {
            return firstDayOf(year) + daysBeforeMonth(year, month) + dayOfMonth - 1;
        }

        static int yearOf(int day) {
            // Years of 366 days each lag less than one year behind the true ones from 1910 to 2030.
            int year = FIRST_YEAR + (day - FIRST_DAY) / 366;
            return day < firstDayOf(year + 1) ? year : year + 1;
        }

        static int dayOfYear(int day) {
            return day - firstDayOf(yearOf(day)) + 1;
        }

        static int monthOf(int day) {
            int year = yearOf(day);
            int daysBefore = day - firstDayOf(year);
            int month = 1;
            while (month < 12 && daysBefore >= daysBeforeMonth(year, month + 1)) {
                month++;
            }
            return month;
        }

        static int dayOfMonth(int day) {
            return dayOfYear(day) - daysBeforeMonth(yearOf(day), monthOf(day));
        }

        static int dayOfWeek(int day) {
            return Math.floorMod(day + 3, 7) + 1;
        }
    }
}
