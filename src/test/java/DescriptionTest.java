import java.time.LocalDate;
import java.time.Year;

/** The document's description, sentence by sentence: those that name a boundary case. */
public final class DescriptionTest {
    private static final int FIRST_YEAR = 1910;
    private static final int LAST_YEAR = 2030;

    public static void main(String[] args) {
        refusals();
        offsets();
        moments();
        momentsLimits();
        calendar();
        leapYears();
        dated();
        datedLimits();
        clocks();
        orders();
        movingByMonths();
        movingOn();
        movingBack();
        movingClocks();
        fields();
        fieldsRefused();
        Due.end();
    }

    private static void refusals() {
        Told.description("A call that is let, but can not be done, tells REFUSED, -9; nothing changes then.", """
            date 1 2030 1231 86399 999999999 2 = 22279
            moment 1 5 7 = 7
            offsetOf 1 19 0 0 = refused
            moment 1 1800000001 0 = refused
            milli 1 1800000001 0 = refused
            move 1 0 1800000000 false = refused
            momentOf 1 1 = refused
            date 1 2023 229 0 0 0 = refused
            moveDate 1 7 1 false = refused
            set 1 1 13 = refused
            anew 1 0 false = refused
            house 1 = 9
            """);
        Told.description("(An EPOCH DAY, or the SECOND of a CLOCK, may be -9, too, and is told so;"
            + " house() of 1 tells which it was.)", """
            date 0 1969 1223 0 0 0 = -9
            copy 1 0 = -9
            ofDate 1 11 = -9
            moveDate 1 3 0 false = -9
            moveDate 1 3 7 true = -16
            moveDate 1 2 1 false = -9
            set 1 4 23 = -9
            anew 1 2 true = -9
            anew 1 2 false = -9
            strike 1 0 = -9
            moment 0 -777600 0 = 0
            dateOf 2 0 0 = -9
            house 1 = 0
            set 2 2 32 = refused
            house 1 = 1

            offset 0 9 = 0
            clock 0 0 0 0 = -9
            copyClock 1 0 = -9
            moveClock 1 4 24 false = -9
            anewClock 1 0 true = -9
            anewClock 1 1 false = -9
            anew 3 0 true = 0
            clockOf 2 3 = -9
            house 1 = 0

            offsetOf 0 0 0 -9 = -9
            seconds 0 = -9
            offset 0 5 = -9
            moment 0 -9 0 = 0
            ofMoment 0 false = -9
            house 1 = 0
            """);
    }

    private static void offsets() {
        Told.description("from -64800 to 64800 (18 hours)", """
            offset 0 64800 = 0
            seconds 0 = 64800
            offset 0 -64800 = 64800
            seconds 0 = -64800
            offset 0 64801 = bad-argument
            offset 0 -64801 = bad-argument
            offsetOf 1 18 0 0 = 64800
            offsetOf 1 18 0 1 = refused
            offsetOf 1 -18 0 0 = -64800
            offsetOf 1 -18 0 -1 = refused
            """);
        Told.description("OFFSETS 0 to 3 are numbers of seconds", """
            seconds 0 = 0
            seconds 3 = 20700
            seconds 4 = no-such-one
            seconds -1 = no-such-one
            """);
        Told.description("at first 0, 3600, -18000, 20700", """
            seconds 0 = 0
            seconds 1 = 3600
            seconds 2 = -18000
            seconds 3 = 20700
            """);
        Told.description("Of two OFFSETS the greater one is AHEAD.", """
            offset 0 64800 = 0
            offset 1 64799 = 3600
            offset 2 -64800 = -18000
            offset 3 64800 = 20700
            orderOffset 0 1 = -1
            orderOffset 1 0 = 1
            orderOffset 2 0 = 1
            orderOffset 1 2 = -1
            orderOffset 0 3 = 0
            """);
    }

    private static void moments() {
        Told.description("MOMENTS 0 to 3 have a SECOND and a NANO (0 to 999999999); both 0 at first.", """
            ofMoment 0 false = 0
            ofMoment 0 true = 0
            ofMoment 3 false = 0
            ofMoment 3 true = 0
            ofMoment 4 true = no-such-one
            ofMoment -1 true = no-such-one
            move 0 2 1 true = 999999999
            ofMoment 0 true = 999999999
            move 0 2 1 false = 0
            ofMoment 0 true = 0
            """);
        Told.description("NUMBER of a MOMENT: SECOND * 10^9 + NANO.", """
            moment 0 -1 1 = 1
            ofMoment 0 false = -1
            move 0 2 2 true = 999999999
            ofMoment 0 false = -2
            millis 0 = -1001
            """);
        Told.description("The SECOND 0 begins with the 1st of January 1970, at the offset 0.", """
            date 0 1970 101 0 0 0 = 0
            momentOf 0 0 = 0
            ofMoment 0 false = 0
            moveDate 0 7 1 true = -1
            momentOf 0 0 = 999999999
            ofMoment 0 false = -1
            dateOf 1 1 2 = -1
            ofDate 1 0 = 1969
            ofDate 1 12 = 68400
            """);
        Told.description("Of two MOMENTS that with the smaller NUMBER is AHEAD.", """
            moment 0 -1800000000 0 = 0
            moment 1 1800000000 999999999 = 999999999
            moment 2 -1 999999999 = 999999999
            orderMoment 0 1 = -1
            orderMoment 1 0 = 1
            orderMoment 2 3 = -1
            orderMoment 3 2 = 1
            orderMoment 0 2 = -1
            copyMoment 3 1 = 999999999
            orderMoment 1 3 = 0
            move 3 2 1 true = 999999998
            orderMoment 1 3 = 1
            """);
    }

    private static void momentsLimits() {
        Told.description("SECOND is always -1800000000 to 1800000000: what would lead beyond is REFUSED.", """
            moment 0 1800000000 999999999 = 999999999
            moment 0 1800000000 1000000000 = refused
            moment 0 1800000001 -1 = 999999999
            moment 0 1800000001 0 = refused
            moment 0 -1800000000 0 = 0
            moment 0 -1800000000 -1 = refused
            moment 0 -1800000001 1000000000 = 0
            moment 0 -1800000001 999999999 = refused

            milli 0 1800000000 999 = 999000000
            milli 0 1800000000 1000 = refused
            milli 0 1800000001 -1 = 999000000
            milli 0 1800000001 0 = refused
            milli 0 -1800000000 0 = 0
            milli 0 -1800000000 -1 = refused
            milli 0 -1800000001 1000 = 0
            milli 0 -1800000001 999 = refused

            moment 0 1800000000 999999998 = 999999998
            move 0 2 1 false = 999999999
            move 0 2 1 false = refused
            move 0 1 1 false = refused
            move 0 0 1 false = refused
            moment 0 -1800000000 1 = 1
            move 0 2 1 true = 0
            move 0 2 1 true = refused
            move 0 1 1 true = refused
            move 0 0 1 true = refused

            moment 0 1800000000 999999999 = 999999999
            dateOf 0 0 3 = 20833
            momentOf 1 0 = 999999999
            ofMoment 1 false = 1800000000
            moveDate 0 7 1 false = 20833
            momentOf 1 0 = refused
            moment 0 -1800000000 0 = 0
            dateOf 0 0 2 = -20834
            momentOf 1 0 = 0
            ofMoment 1 false = -1800000000
            moveDate 0 7 1 true = -20834
            momentOf 1 0 = refused
            date 0 2030 1231 0 0 0 = 22279
            momentOf 1 0 = refused
            date 0 1910 101 0 0 0 = -21915
            momentOf 1 0 = refused
            """);
    }

    private static void calendar() {
        Told.description("a day of the calendar (YEAR, MONTH 1 to 12, DAY from 1 on)", """
            date 0 2001 101 0 0 0 = 11323
            date 0 2001 1231 0 0 0 = 11687
            date 0 2001 1 0 0 0 = refused
            date 0 2001 1301 0 0 0 = refused
            date 0 2001 100 0 0 0 = refused
            date 0 2001 1200 0 0 0 = refused
            ofDate 0 1 = 12
            moveDate 0 3 1 false = 11688
            ofDate 0 1 = 1
            ofDate 0 2 = 1
            """);
        Told.description("a time of the day: HOUR 0 to 23, MINUTE, SECOND OF THE MINUTE 0 to 59, NANO", """
            date 0 2001 101 86399 999999999 0 = 11323
            ofDate 0 4 = 23
            ofDate 0 5 = 59
            ofDate 0 6 = 59
            ofDate 0 7 = 999999999
            moveDate 0 7 1 false = 11324
            ofDate 0 4 = 0
            ofDate 0 5 = 0
            ofDate 0 6 = 0
            ofDate 0 7 = 0
            """);
        Told.description("EPOCH DAY: 0 is the 1st of January 1970.", """
            date 0 1970 101 0 0 0 = 0
            date 0 1970 102 0 0 0 = 1
            date 0 1969 1231 0 0 0 = -1
            date 0 1910 101 0 0 0 = -21915
            date 0 2030 1231 0 0 0 = 22279
            """);
        Told.description("DAY OF THE WEEK 1 is Monday (the EPOCH DAY 0 has 4)", """
            ofDate 0 8 = 4
            moveDate 0 3 3 false = 3
            ofDate 0 8 = 7
            moveDate 0 3 1 false = 4
            ofDate 0 8 = 1
            moveDate 0 3 7 true = -3
            ofDate 0 8 = 1
            moveDate 0 3 1 true = -4
            ofDate 0 8 = 7
            date 0 1910 101 0 0 0 = -21915
            ofDate 0 8 = 6
            date 0 2030 1231 0 0 0 = 22279
            ofDate 0 8 = 2
            """);
        Told.description("DAY OF THE YEAR from 1 on", """
            ofDate 0 3 = 1
            date 0 2023 1231 0 0 0 = 19722
            ofDate 0 3 = 365
            moveDate 0 3 1 false = 19723
            ofDate 0 3 = 1
            moveDate 0 3 365 false = 20088
            ofDate 0 3 = 366
            """);
        Told.description("SECOND OF THE DAY: HOUR * 3600 + MINUTE * 60 + SECOND OF THE MINUTE.", """
            ofDate 0 12 = 0
            set 0 4 23 = 0
            set 0 5 59 = 0
            ofDate 0 12 = 86340
            set 0 6 59 = 0
            ofDate 0 12 = 86399
            """);
    }

    private static void leapYears() {
        StringBuilder calls = new StringBuilder();
        for (int year = FIRST_YEAR; year <= LAST_YEAR; year++) {
            long first = LocalDate.of(year, 1, 1).toEpochDay();
            boolean isLeap = Year.isLeap(year);
            calls.append("date 0 ").append(year).append(" 228 0 0 0 = ").append(first + 58).append('\n');
            calls.append("date 0 ").append(year).append(" 229 0 0 0 = ").append(isLeap ? first + 59 : "refused").append('\n');
            calls.append("set 0 2 29 = ").append(isLeap ? first + 59 : "refused").append('\n');
            calls.append("set 0 3 365 = ").append(first + 364).append('\n');
            calls.append("set 0 3 366 = ").append(isLeap ? first + 365 : "refused").append("\n\n");
        }
        Told.description("each 4th year is a leap year, but not each 100th, but each 400th", calls.toString());
    }

    private static void dated() {
        Told.description("DATED 0 to 3 have a LOCAL time and an OFFSET of their own", """
            offset 3 0 = 20700
            date 0 2024 229 5 6 3 = 19782
            date 1 2024 229 5 6 2 = 19782
            offset 2 7 = -18000
            ofDate 1 9 = -18000
            ofDate 0 9 = 0
            date 3 1970 101 0 0 0 = 0
            date 4 1970 101 0 0 0 = no-such-one
            ofDate 3 0 = 1970
            ofDate 4 0 = no-such-one
            ofDate -1 0 = no-such-one
            """);
        Told.description("at first the beginning of the EPOCH DAY 0, with the offset 0", """
            ofDate 0 11 = 0
            ofDate 0 12 = 0
            ofDate 0 7 = 0
            ofDate 0 9 = 0
            isDate 0 1 3 = true
            isDate 0 2 3 = true
            isDate 0 3 3 = true
            """);
        Told.description("its SECOND is EPOCH DAY * 86400 + SECOND OF THE DAY less the OFFSET", """
            offset 0 64800 = 0
            offset 1 -64800 = 3600
            date 0 1910 101 0 0 0 = -21915
            ofDate 0 10 = -1893520800
            date 1 2030 1231 86399 0 1 = 22279
            ofDate 1 10 = 1925056799
            date 2 1970 101 64800 0 0 = 0
            ofDate 2 10 = 0
            date 2 1970 101 64799 0 0 = 0
            ofDate 2 10 = -1
            """);
        Told.description("its NANO that of the LOCAL time", """
            moveDate 0 7 1 true = -1
            anew 0 1 false = 0
            momentOf 0 0 = 999999999
            ofMoment 0 true = 999999999
            ofMoment 0 false = -1
            moveDate 0 7 1 false = 0
            momentOf 0 0 = 0
            """);
        Told.description("Two are the SAME, if they have the same LOCAL time and the same OFFSET; ALIKE, if they have the same MOMENT.", """
            anew 1 1 false = 0
            isDate 0 1 2 = true
            isDate 0 1 3 = false
            anew 2 1 true = 0
            isDate 0 2 2 = false
            isDate 0 2 3 = false
            anew 1 0 false = 0
            isDate 0 1 3 = true
            moveDate 1 7 1 false = 0
            isDate 0 1 2 = false
            isDate 0 1 3 = false

            anewClock 1 1 false = 0
            isClock 0 1 2 = true
            isClock 0 1 3 = false
            anewClock 2 1 true = -3600
            isClock 0 2 2 = false
            isClock 0 2 3 = false
            anewClock 1 0 false = 0
            isClock 0 1 3 = true
            moveClock 1 7 1 false = 0
            isClock 0 1 2 = false
            isClock 0 1 3 = false
            """);
    }

    private static void datedLimits() {
        StringBuilder calls = new StringBuilder();
        for (int unit = 0; unit <= 7; unit++) {
            calls.append("date 0 2030 1231 86399 999999999 1 = 22279\n");
            calls.append("moveDate 0 ").append(unit).append(" 0 false = 22279\n");
            calls.append("moveDate 0 ").append(unit).append(" 1 false = refused\n");
            calls.append("moveDate 0 ").append(unit).append(" -1 true = refused\n");
            calls.append("date 0 1910 101 0 0 2 = -21915\n");
            calls.append("moveDate 0 ").append(unit).append(" 0 true = -21915\n");
            calls.append("moveDate 0 ").append(unit).append(" 1 true = refused\n");
            calls.append("moveDate 0 ").append(unit).append(" -1 false = refused\n\n");
        }
        Told.description("Their YEAR is always 1910 to 2030: what would lead beyond is REFUSED.", calls + """
            date 0 1909 1231 86399 999999999 2 = refused
            date 0 1910 101 0 0 1 = -21915
            date 0 2030 1231 86399 999999999 2 = 22279
            date 0 2031 101 0 0 1 = refused

            set 0 0 1910 = -21915
            set 0 0 1909 = refused
            set 0 0 2030 = 21915
            set 0 0 2031 = refused

            date 0 2030 1231 82799 0 0 = 22279
            anew 0 1 false = 22279
            moveDate 0 6 1 true = 22279
            anew 0 0 false = 22279
            set 0 4 23 = 22279
            anew 0 1 false = refused
            anew 0 1 true = 22279
            date 0 1910 101 18000 0 0 = -21915
            anew 0 2 false = -21915
            ofDate 0 12 = 0
            anew 0 0 true = -21915
            anew 0 2 false = refused

            date 0 2029 301 0 0 0 = 21609
            moveDate 0 1 21 false = 22249
            moveDate 0 1 1 false = refused
            moveDate 0 2 4 false = 22277
            moveDate 0 2 1 false = refused
            moveDate 0 3 2 false = 22279
            moveDate 0 4 23 false = 22279
            moveDate 0 4 1 false = refused
            """);
    }

    private static void clocks() {
        Told.description("CLOCKS 0 to 2 have a time of the day and an OFFSET of their own; at first 0 and 0.", """
            ofClock 0 5 = 0
            ofClock 0 3 = 0
            ofClock 0 4 = 0
            ofClock 2 5 = 0
            ofClock 2 4 = 0
            ofClock 3 0 = no-such-one
            ofClock -1 0 = no-such-one
            isClock 0 1 3 = true
            isClock 1 2 3 = true
            offset 0 5 = 0
            ofClock 0 4 = 0
            clock 0 1 2 0 = -4
            offset 0 6 = 5
            ofClock 0 4 = 5
            """);
        Told.description("SECOND OF THE DAY less the OFFSET (it may be below 0, or above a day), and the NANO.", """
            offset 0 64800 = 0
            offset 1 -64800 = 3600
            clock 0 0 0 0 = -64800
            clock 1 86399 0 1 = 151199
            orderClock 0 1 = -1
            isClock 0 1 0 = true
            isClock 0 1 1 = false

            clock 0 82800 5 0 = 82800
            clock 1 0 5 1 = -3600
            isClock 0 1 2 = false
            orderClock 0 1 = 1
            clock 1 0 5 0 = 0
            clock 2 0 6 0 = 0
            isClock 1 2 2 = false
            isClock 1 2 0 = true
            orderClock 1 2 = -1
            orderClock 2 1 = 1
            """);
    }

    private static void orders() {
        Told.description("by their MOMENTS, then by their LOCAL times (days, then times of the day). AHEAD is that with the smaller one.", """
            date 0 2024 229 0 0 1 = 19782
            date 1 2024 228 82800 0 0 = 19781
            isDate 0 1 2 = true
            orderDate 0 1 = 1
            orderDate 1 0 = -1
            date 2 2024 229 3600 0 1 = 19782
            date 3 2024 229 0 0 0 = 19782
            isDate 2 3 2 = true
            orderDate 2 3 = 1
            orderDate 3 2 = -1
            moveDate 3 7 1 false = 19782
            orderDate 2 3 = -1
            orderDate 3 2 = 1
            isDate 2 3 0 = true
            isDate 3 2 1 = true

            offset 0 64800 = 0
            offset 1 -64800 = 3600
            date 0 1910 101 0 0 0 = -21915
            date 1 2030 1231 86399 999999999 1 = 22279
            orderDate 0 1 = -1
            orderDate 1 0 = 1
            orderDate 0 0 = 0

            clock 0 7200 0 1 = 3600
            clock 1 3600 0 0 = 3600
            orderClock 0 1 = 1
            orderClock 1 0 = -1
            isClock 0 1 2 = true
            moveClock 1 7 1 false = 3600
            orderClock 0 1 = -1
            """);
    }

    private static void movingByMonths() {
        Told.description("By months (a year is 12 of them): the MONTH and the YEAR move;"
            + " if that MONTH has not so many DAYS, the DAY becomes its last one.", """
            date 0 2024 131 0 0 0 = 19753
            moveDate 0 1 1 false = 19782
            moveDate 0 1 1 false = 19811
            date 0 2023 131 0 0 0 = 19388
            moveDate 0 1 1 false = 19416
            date 0 2023 131 0 0 0 = 19388
            moveDate 0 1 3 false = 19477
            date 0 2023 331 0 0 0 = 19447
            moveDate 0 1 1 true = 19416
            date 0 2024 331 0 0 0 = 19813
            moveDate 0 1 1 true = 19782
            date 0 2024 130 0 0 0 = 19752
            moveDate 0 1 1 false = 19782
            date 0 2024 129 0 0 0 = 19751
            moveDate 0 1 1 false = 19782

            date 0 2024 229 0 0 0 = 19782
            moveDate 0 0 1 false = 20147
            date 0 2024 229 0 0 0 = 19782
            moveDate 0 0 1 true = 19416
            date 0 2024 229 0 0 0 = 19782
            moveDate 0 0 4 false = 21243
            moveDate 0 0 116 true = -21126
            moveDate 0 0 1 true = -21492

            date 0 2023 1231 0 0 0 = 19722
            moveDate 0 1 1 false = 19753
            moveDate 0 1 1 true = 19722
            moveDate 0 1 12 false = 20088
            moveDate 0 1 -12 false = 19722
            moveDate 0 0 1 false = 20088
            """);
        Told.description("A DATED is moved in its LOCAL time; the OFFSET stays.", """
            date 0 2024 228 82800 5 3 = 19781
            moveDate 0 4 1 false = 19782
            ofDate 0 12 = 0
            ofDate 0 9 = 20700
            moveDate 0 1 1 false = 19811
            ofDate 0 9 = 20700
            ofDate 0 12 = 0
            ofDate 0 7 = 5
            """);
    }

    private static void movingOn() {
        Told.description("By weeks and days: the EPOCH DAY.", """
            date 0 2024 222 86399 999999999 1 = 19775
            moveDate 0 2 1 false = 19782
            ofDate 0 2 = 29
            moveDate 0 3 1 false = 19783
            ofDate 0 1 = 3
            ofDate 0 2 = 1
            moveDate 0 2 1 true = 19776
            ofDate 0 2 = 23
            ofDate 0 12 = 86399
            ofDate 0 7 = 999999999
            date 0 1910 101 0 0 0 = -21915
            moveDate 0 3 44194 false = 22279
            moveDate 0 3 44194 true = -21915
            moveDate 0 2 6313 false = 22276
            moveDate 0 2 1 false = refused
            """);
        Told.description("By the others: EPOCH DAY and time of the day go on together.", """
            date 0 2023 1231 86399 999999999 0 = 19722
            moveDate 0 7 1 false = 19723
            ofDate 0 0 = 2024
            ofDate 0 12 = 0
            ofDate 0 7 = 0
            moveDate 0 7 1 true = 19722
            ofDate 0 0 = 2023
            ofDate 0 12 = 86399
            ofDate 0 7 = 999999999
            moveDate 0 6 1 false = 19723
            ofDate 0 12 = 0
            moveDate 0 6 1 true = 19722
            ofDate 0 12 = 86399
            moveDate 0 5 1 false = 19723
            ofDate 0 12 = 59
            moveDate 0 5 1 true = 19722
            moveDate 0 4 1 false = 19723
            ofDate 0 12 = 3599
            moveDate 0 4 1 true = 19722
            ofDate 0 12 = 86399
            moveDate 0 4 -24 false = 19721
            ofDate 0 12 = 86399

            date 0 1910 101 0 0 0 = -21915
            moveDate 0 6 2147483647 false = 2940
            ofDate 0 12 = 11647
            moveDate 0 6 1670964352 false = 22279
            ofDate 0 12 = 86399
            moveDate 0 6 1 false = refused
            moveDate 0 5 -2147483648 false = refused
            moveDate 0 4 2147483647 false = refused
            moveDate 0 3 2147483647 false = refused
            moveDate 0 2 2147483647 false = refused
            moveDate 0 1 2147483647 false = refused
            moveDate 0 0 2147483647 false = refused
            """);
    }

    private static void movingBack() {
        Told.description("Moved back is moved by the amount with the other sign (of the least INT, too: nothing wraps around).", """
            moment 0 -1800000000 5 = 5
            move 0 0 -2147483648 true = 5
            ofMoment 0 false = 347483648
            move 0 0 -2147483648 false = 5
            ofMoment 0 false = -1800000000
            move 0 1 -2147483648 true = 648000005
            ofMoment 0 false = -1797852517
            move 0 2 -2147483648 true = 795483653
            ofMoment 0 false = -1797852515
            move 0 2 -1 true = 795483654
            move 0 2 1 true = 795483653

            date 0 1910 101 0 5 0 = -21915
            moveDate 0 6 -2147483648 true = 2940
            ofDate 0 12 = 11648
            moveDate 0 7 -2147483648 true = 2940
            ofDate 0 12 = 11650
            ofDate 0 7 = 147483653
            moveDate 0 7 -2147483648 false = 2940
            moveDate 0 6 -2147483648 false = -21915
            ofDate 0 12 = 0
            ofDate 0 7 = 5
            moveDate 0 5 -2147483648 true = refused
            moveDate 0 4 -2147483648 true = refused
            moveDate 0 3 -2147483648 true = refused
            moveDate 0 2 -2147483648 true = refused
            moveDate 0 1 -2147483648 true = refused
            moveDate 0 0 -2147483648 true = refused
            moveDate 0 3 -1 true = -21914
            moveDate 0 3 1 true = -21915

            moveDate 0 0 1073741824 false = refused
            moveDate 0 1 1073741824 false = refused
            moveDate 0 2 1073741824 false = refused
            moveDate 0 3 1073741824 false = refused
            moveDate 0 4 1073741824 false = refused
            moveDate 0 5 1073741824 true = refused
            moveDate 0 6 1073741824 false = 12427
            ofDate 0 12 = 49024
            move 0 0 1073741824 false = 0
            ofMoment 0 false = 1073741824
            move 0 1 1073741824 false = 824000000
            ofMoment 0 false = 1074815565
            moveClock 0 4 1073741824 false = 57600
            moveClock 1 5 1073741824 false = 3840
            moveClock 2 6 1073741824 true = 37376

            moveClock 0 4 -2147483648 true = 28800
            moveClock 0 4 -2147483648 false = 0
            moveClock 0 5 -2147483648 true = 7680
            moveClock 0 5 -2147483648 false = 0
            moveClock 0 6 -2147483648 true = 11648
            moveClock 0 6 -2147483648 false = 0
            moveClock 0 7 -2147483648 true = 2
            ofClock 0 3 = 147483648
            moveClock 0 7 -2147483648 false = 0
            ofClock 0 3 = 0
            """);
    }

    private static void movingClocks() {
        Told.description("A CLOCK is moved by hours down to nanos alone, and goes on behind the last second of the day"
            + " with the first one (and the other way round).", """
            moveClock 0 3 1 false = bad-argument
            moveClock 0 8 1 false = bad-argument
            clock 0 86399 999999999 1 = 82799
            moveClock 0 7 1 false = -3600
            ofClock 0 5 = 0
            ofClock 0 3 = 0
            moveClock 0 7 1 true = 82799
            ofClock 0 5 = 86399
            ofClock 0 3 = 999999999
            moveClock 0 6 1 false = -3600
            moveClock 0 6 1 true = 82799
            moveClock 0 5 1 false = -3541
            moveClock 0 5 1 true = 82799
            moveClock 0 4 1 false = -1
            moveClock 0 4 1 true = 82799
            moveClock 0 4 24 false = 82799
            moveClock 0 5 1440 true = 82799
            moveClock 0 6 86400 true = 82799
            ofClock 0 3 = 999999999
            """);
    }

    private static void fields() {
        Told.description("1 MONTH (if that has not so many DAYS, the DAY becomes its last one; so with the YEAR, too)", """
            date 0 2024 131 0 0 0 = 19753
            set 0 1 2 = 19782
            set 0 0 2023 = 19416
            set 0 0 2024 = 19781
            date 0 2023 131 0 0 0 = 19388
            set 0 1 4 = 19477
            set 0 1 1 = 19387
            set 0 1 2 = 19416
            set 0 1 12 = 19719
            """);
        Told.description("it becomes the number; all else of the LOCAL time stays (with 3 the DAY and the MONTH come of it)", """
            date 0 2024 1231 86399 999999999 3 = 20088
            set 0 3 60 = 19782
            ofDate 0 1 = 2
            ofDate 0 2 = 29
            ofDate 0 12 = 86399
            ofDate 0 7 = 999999999
            set 0 3 61 = 19783
            ofDate 0 1 = 3
            ofDate 0 2 = 1
            set 0 3 366 = 20088
            set 0 3 1 = 19723
            set 0 2 31 = 19753
            set 0 2 1 = 19723
            set 0 4 0 = 19723
            ofDate 0 12 = 3599
            set 0 5 0 = 19723
            ofDate 0 12 = 59
            set 0 6 0 = 19723
            ofDate 0 12 = 0
            ofDate 0 7 = 999999999
            set 0 7 0 = 19723
            ofDate 0 7 = 0
            set 0 7 999999999 = 19723
            set 0 6 59 = 19723
            set 0 5 59 = 19723
            set 0 4 23 = 19723
            ofDate 0 12 = 86399
            ofDate 0 9 = 20700
            """);
    }

    private static void fieldsRefused() {
        Told.description("REFUSED, if there is no such one (a DAY that the MONTH has not, a DAY OF THE YEAR that the YEAR has not, and so on).", """
            set 0 1 0 = refused
            set 0 1 13 = refused
            set 0 2 0 = refused
            set 0 2 32 = refused
            set 0 3 0 = refused
            set 0 3 366 = refused
            set 0 4 -1 = refused
            set 0 4 24 = refused
            set 0 5 -1 = refused
            set 0 5 60 = refused
            set 0 6 -1 = refused
            set 0 6 60 = refused
            set 0 7 -1 = refused
            set 0 7 1000000000 = refused

            date 0 2024 430 0 0 0 = 19843
            set 0 2 31 = refused
            set 0 2 30 = 19843
            set 0 3 367 = refused
            set 0 3 366 = 20088
            date 0 2024 229 0 0 0 = 19782
            set 0 2 30 = refused
            date 0 2023 228 0 0 0 = 19416
            set 0 2 29 = refused
            set 0 1 -1 = refused
            set 0 2 -1 = refused
            set 0 3 -1 = refused
            set 0 0 0 = refused
            set 0 0 -1 = refused
            """);
    }
}
