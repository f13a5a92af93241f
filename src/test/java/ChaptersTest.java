import java.math.BigInteger;

/** The chapters of the promises, sentence by sentence: those that name a boundary case. */
public final class ChaptersTest {
    public static void main(String[] args) {
        offsets();
        momentsTold();
        momentsMoved();
        momentsAsked();
        datedTold();
        datedMoved();
        datedAnew();
        datedAsked();
        clocksTold();
        clocksMoved();
        clocksAsked();
        desk();
        sound();
        digest();
        digestWrapsAround();
        Due.end();
    }

    private static void offsets() {
        Told.promise(2, "Returns what it was.", """
            offset 0 64800 = 0
            offset 0 -64800 = 64800
            offset 0 -64800 = -64800
            """);
        Told.promise(3, "REFUSED, if hours is not -18 to 18, minutes or seconds not -59 to 59", """
            offsetOf 0 18 0 0 = 64800
            offsetOf 0 19 0 0 = refused
            offsetOf 0 -18 0 0 = -64800
            offsetOf 0 -19 0 0 = refused
            offsetOf 0 0 59 0 = 3540
            offsetOf 0 0 60 0 = refused
            offsetOf 0 0 -59 0 = -3540
            offsetOf 0 0 -60 0 = refused
            offsetOf 0 0 0 59 = 59
            offsetOf 0 0 0 60 = refused
            offsetOf 0 0 0 -59 = -59
            offsetOf 0 0 0 -60 = refused
            offsetOf 0 -2147483648 0 0 = refused
            offsetOf 0 0 2147483647 0 = refused
            offsetOf 0 0 0 -2147483648 = refused
            offsetOf 0 0 0 0 = 0
            """);
        Told.promise(3, "if one of the three is above 0 and another one below", """
            offsetOf 0 1 -1 0 = refused
            offsetOf 0 -1 1 0 = refused
            offsetOf 0 1 0 -1 = refused
            offsetOf 0 -1 0 1 = refused
            offsetOf 0 0 1 -1 = refused
            offsetOf 0 0 -1 1 = refused
            offsetOf 0 1 1 -1 = refused
            offsetOf 0 -1 -1 1 = refused
            offsetOf 0 1 0 1 = 3601
            offsetOf 0 -1 0 -1 = -3601
            offsetOf 0 0 -1 -1 = -61
            offsetOf 0 0 1 1 = 61
            """);
        Told.promise(3, "or if it would be beyond 18 hours", """
            offsetOf 0 17 59 59 = 64799
            offsetOf 0 18 0 0 = 64800
            offsetOf 0 18 0 1 = refused
            offsetOf 0 18 1 0 = refused
            offsetOf 0 18 59 59 = refused
            offsetOf 0 -17 -59 -59 = -64799
            offsetOf 0 -18 0 0 = -64800
            offsetOf 0 -18 0 -1 = refused
            offsetOf 0 -18 -1 0 = refused
            offsetOf 0 -18 -59 -59 = refused
            """);
        Told.promise(5, "Returns -1 if the first one is AHEAD, 1 if the other one is, otherwise 0.", """
            orderOffset 3 2 = -1
            orderOffset 2 3 = 1
            orderOffset 3 3 = 0
            offset 2 20700 = -18000
            orderOffset 2 3 = 0
            offset 2 20699 = 20700
            orderOffset 2 3 = 1
            """);
    }

    private static void momentsTold() {
        Told.promise(6, "nanos: a number (also below 0, or above a second)", """
            moment 0 0 -1 = 999999999
            ofMoment 0 false = -1
            moment 0 0 1000000000 = 0
            ofMoment 0 false = 1
            moment 0 0 2147483647 = 147483647
            ofMoment 0 false = 2
            moment 0 0 -2147483648 = 852516352
            ofMoment 0 false = -3
            moment 0 -1800000000 2147483647 = 147483647
            moment 0 1800000000 -2147483648 = 852516352
            moment 0 2147483647 2147483647 = refused
            moment 0 -2147483648 -2147483648 = refused
            """);
        Told.promise(7, "millis: a number (likewise)", """
            milli 0 0 -1 = 999000000
            ofMoment 0 false = -1
            milli 0 0 1000 = 0
            ofMoment 0 false = 1
            milli 0 0 2147483647 = 647000000
            ofMoment 0 false = 2147483
            milli 0 0 -2147483648 = 352000000
            ofMoment 0 false = -2147484
            milli 0 1802147483 -2147483648 = 352000000
            ofMoment 0 false = 1799999999
            milli 0 1802147484 -2147483648 = 352000000
            ofMoment 0 false = 1800000000
            milli 0 1802147485 -2147483648 = refused
            milli 0 2147483647 2147483647 = refused
            milli 0 -2147483648 -2147483648 = refused
            """);
        Told.promise(6, "Returns its NANO then; REFUSED.", """
            moment 3 1800000000 999999999 = 999999999
            moment 3 1800000000 1000000000 = refused
            moment 3 1800000001 0 = refused
            ofMoment 3 false = 1800000000
            moment 3 -1800000000 0 = 0
            moment 3 -1800000000 -1 = refused
            moment 3 -1800000001 999999999 = refused
            ofMoment 3 true = 0
            """);
        Told.promise(7, "Returns its NANO then; REFUSED.", """
            milli 3 1800000000 999 = 999000000
            milli 3 1800000000 1000 = refused
            milli 3 1800000001 0 = refused
            ofMoment 3 false = 1800000000
            milli 3 -1800000000 0 = 0
            milli 3 -1800000000 -1 = refused
            milli 3 -1800000001 999 = refused
            ofMoment 3 true = 0
            """);
        Told.promise(9, "Returns its NANO then; REFUSED.", """
            moment 0 1800000000 999999999 = 999999999
            dateOf 0 0 0 = 20833
            momentOf 1 0 = 999999999
            anew 0 2 true = 20833
            momentOf 1 0 = refused
            anew 0 1 true = 20833
            momentOf 1 0 = 999999999
            ofMoment 1 false = 1799996400
            """);
        Told.promise(14, "A MOMENT becomes another one (or stays).", """
            moment 1 -1800000000 7 = 7
            copyMoment 2 1 = 7
            isMoment 1 2 2 = true
            copyMoment 1 1 = 7
            ofMoment 1 false = -1800000000
            move 2 2 1 false = 8
            ofMoment 1 true = 7
            copyMoment 1 3 = 0
            ofMoment 1 false = 0
            """);
    }

    private static void momentsMoved() {
        Told.promise(8, "unit: 0 seconds, 1 thousandths of a second, 2 nanos", """
            move 0 0 2147483647 false = refused
            move 0 0 1800000000 false = 0
            move 0 1 2147483647 true = 353000000
            ofMoment 0 false = 1797852516
            move 0 2 2147483647 true = 205516353
            ofMoment 0 false = 1797852514
            move 0 -1 0 false = bad-argument
            move 0 3 0 false = bad-argument
            move 0 2 0 true = 205516353
            """);
        Told.promise(8, "Returns its NANO then; REFUSED.", """
            moment 0 1800000000 0 = 0
            move 0 2 999999999 false = 999999999
            move 0 2 1 false = refused
            move 0 1 1 false = refused
            move 0 0 -1 true = refused
            moment 0 -1800000000 999999 = 999999
            move 0 1 1 true = refused
            move 0 2 1000000 true = refused
            move 0 2 999999 true = 0
            move 0 2 -1 false = refused
            """);
    }

    private static void momentsAsked() {
        Told.promise(11, "Returns NUMBER / 10^6, rounded down, as a text (\"-\" ahead, if it is below 0).", """
            millis 0 = 0
            moment 0 0 999999 = 999999
            millis 0 = 0
            moment 0 0 1000000 = 1000000
            millis 0 = 1
            moment 0 0 -1 = 999999999
            millis 0 = -1
            moment 0 0 -1000000 = 999000000
            millis 0 = -1
            moment 0 0 -1000001 = 998999999
            millis 0 = -2
            moment 0 -1 0 = 0
            millis 0 = -1000
            moment 0 1800000000 999999999 = 999999999
            millis 0 = 1800000000999
            moment 0 -1800000000 0 = 0
            millis 0 = -1800000000000
            moment 0 -1800000000 1 = 1
            millis 0 = -1800000000000
            """);
        Told.promise(12, "Returns -1 if the first one is AHEAD, 1 if the other one is, otherwise 0.", """
            moment 0 -1800000000 0 = 0
            moment 1 -1800000000 1 = 1
            orderMoment 0 1 = -1
            orderMoment 1 0 = 1
            orderMoment 1 1 = 0
            orderMoment 2 3 = 0
            """);
        Told.promise(13, "what: 0 whether the first one is AHEAD, 1 whether the other one is, 2 whether they have the same NUMBER", """
            isMoment 0 1 0 = false
            isMoment 0 1 1 = false
            isMoment 0 1 2 = true
            move 0 2 1 true = 999999999
            isMoment 0 1 0 = true
            isMoment 0 1 1 = false
            isMoment 0 1 2 = false
            isMoment 1 0 0 = false
            isMoment 1 0 1 = true
            isMoment 1 1 2 = true
            """);
    }

    private static void datedTold() {
        Told.promise(15, "day: 100 * MONTH and the DAY", """
            date 0 2024 229 0 0 0 = 19782
            ofDate 0 1 = 2
            ofDate 0 2 = 29
            date 0 2024 1231 0 0 0 = 20088
            ofDate 0 1 = 12
            ofDate 0 2 = 31
            date 0 2024 101 0 0 0 = 19723
            date 0 2024 1201 0 0 0 = 20058
            ofDate 0 1 = 12
            ofDate 0 2 = 1
            """);
        Told.promise(15, "REFUSED, if there is no such day, or the YEAR is none that it can have.", """
            date 0 2024 0 0 0 0 = refused
            date 0 2024 9999 0 0 0 = refused
            date 0 2024 1 0 0 0 = refused
            date 0 2024 100 0 0 0 = refused
            date 0 2024 132 0 0 0 = refused
            date 0 2024 230 0 0 0 = refused
            date 0 2023 229 0 0 0 = refused
            date 0 2024 332 0 0 0 = refused
            date 0 2024 431 0 0 0 = refused
            date 0 2024 532 0 0 0 = refused
            date 0 2024 631 0 0 0 = refused
            date 0 2024 732 0 0 0 = refused
            date 0 2024 832 0 0 0 = refused
            date 0 2024 931 0 0 0 = refused
            date 0 2024 1032 0 0 0 = refused
            date 0 2024 1131 0 0 0 = refused
            date 0 2024 1232 0 0 0 = refused
            date 0 2024 1301 0 0 0 = refused
            date 0 1909 101 0 0 0 = refused
            date 0 2031 101 0 0 0 = refused
            date 0 2147483647 101 0 0 0 = refused
            date 0 -2147483648 101 0 0 0 = refused
            date 0 11761192 101 0 0 0 = refused
            date 0 -11757260 101 0 0 0 = refused
            ofDate 0 11 = 0

            date 0 2024 131 0 0 0 = 19753
            date 0 2024 229 0 0 0 = 19782
            date 0 2024 331 0 0 0 = 19813
            date 0 2024 430 0 0 0 = 19843
            date 0 2024 531 0 0 0 = 19874
            date 0 2024 630 0 0 0 = 19904
            date 0 2024 731 0 0 0 = 19935
            date 0 2024 831 0 0 0 = 19966
            date 0 2024 930 0 0 0 = 19996
            date 0 2024 1031 0 0 0 = 20027
            date 0 2024 1130 0 0 0 = 20057
            date 0 2024 1231 0 0 0 = 20088
            """);
        Told.promise(15, "offset: the OFFSET that it has then (as it is now)", """
            date 0 2024 229 0 0 1 = 19782
            offset 1 -64800 = 3600
            ofDate 0 9 = 3600
            date 0 2024 229 0 0 1 = 19782
            ofDate 0 9 = -64800
            """);
        Told.promise(16, "A DATED becomes that of a MOMENT by an OFFSET.", """
            offset 0 64800 = 0
            offset 1 -64800 = 3600
            moment 0 1800000000 999999999 = 999999999
            dateOf 0 0 0 = 20834
            ofDate 0 12 = 7200
            ofDate 0 7 = 999999999
            ofDate 0 9 = 64800
            ofDate 0 10 = 1800000000
            moment 0 -1800000000 1 = 1
            dateOf 0 0 1 = -20835
            ofDate 0 12 = 79200
            ofDate 0 7 = 1
            ofDate 0 10 = -1800000000
            moment 0 0 -1 = 999999999
            offset 0 0 = 64800
            dateOf 0 0 0 = -1
            ofDate 0 12 = 86399
            """);
        Told.promise(20, "A DATED becomes another one (or stays).", """
            date 1 2030 1231 86399 999999999 2 = 22279
            copy 0 1 = 22279
            isDate 0 1 3 = true
            copy 1 1 = 22279
            ofDate 1 9 = -18000
            moveDate 0 7 1 true = 22279
            ofDate 1 7 = 999999999
            copy 1 2 = 0
            """);
    }

    private static void datedMoved() {
        Told.promise(17, "Returns its EPOCH DAY; REFUSED.", """
            date 0 2030 1231 0 0 0 = 22279
            moveDate 0 4 23 false = 22279
            moveDate 0 4 1 false = refused
            moveDate 0 5 59 false = 22279
            moveDate 0 5 1 false = refused
            moveDate 0 6 59 false = 22279
            moveDate 0 6 1 false = refused
            moveDate 0 7 999999999 false = 22279
            moveDate 0 7 1 false = refused
            moveDate 0 0 120 true = -21551
            moveDate 0 0 1 true = refused
            moveDate 0 1 11 true = -21885
            moveDate 0 1 1 true = refused
            moveDate 0 2 4 true = -21913
            moveDate 0 2 1 true = refused
            moveDate 0 3 2 true = -21915
            moveDate 0 3 1 true = refused
            """);
        Told.promise(18, "Returns its EPOCH DAY; REFUSED.", """
            set 0 0 1910 = -21915
            set 0 0 1909 = refused
            set 0 1 12 = -21581
            set 0 1 13 = refused
            set 0 2 31 = -21551
            set 0 2 32 = refused
            set 0 3 365 = -21551
            set 0 3 366 = refused
            set 0 4 23 = -21551
            set 0 4 24 = refused
            set 0 5 59 = -21551
            set 0 5 60 = refused
            set 0 6 59 = -21551
            set 0 6 60 = refused
            set 0 7 999999999 = -21551
            set 0 7 1000000000 = refused
            set 0 0 2030 = 22279
            set 0 0 2031 = refused
            set 0 0 2147483647 = refused
            set 0 0 1073743794 = refused
            set 0 0 11761192 = refused
            set 0 0 -2147483648 = refused
            set 0 1 -2147483648 = refused
            set 0 2 2147483647 = refused
            set 0 3 -2147483648 = refused
            set 0 4 2147483647 = refused
            set 0 5 -2147483648 = refused
            set 0 6 2147483647 = refused
            set 0 7 -2147483648 = refused
            """);
    }

    private static void datedAnew() {
        Told.promise(19, "isLocal: whether the LOCAL time stays, otherwise the MOMENT", """
            date 0 2023 1231 86399 7 0 = 19722
            anew 0 1 false = 19723
            ofDate 0 12 = 3599
            ofDate 0 10 = 1704067199
            anew 0 2 true = 19723
            ofDate 0 12 = 3599
            ofDate 0 10 = 1704088799
            anew 0 2 false = 19723
            anew 0 0 false = 19723
            ofDate 0 12 = 21599
            ofDate 0 7 = 7
            """);
        Told.promise(19, "Returns its EPOCH DAY; REFUSED.", """
            offset 1 1 = 3600
            offset 2 -1 = -18000
            date 0 2030 1231 86398 0 0 = 22279
            anew 0 1 false = 22279
            anew 0 0 true = 22279
            anew 0 1 false = refused
            anew 0 1 true = 22279
            date 0 1910 101 1 0 0 = -21915
            anew 0 2 false = -21915
            anew 0 0 true = -21915
            anew 0 2 false = refused
            anew 0 2 true = -21915
            """);
    }

    private static void datedAsked() {
        Told.promise(21, "10 SECOND of its MOMENT, 11 EPOCH DAY, 12 SECOND OF THE DAY", """
            offset 0 -64800 = 0
            date 0 2030 1231 86399 0 0 = 22279
            ofDate 0 9 = -64800
            ofDate 0 10 = 1925056799
            ofDate 0 11 = 22279
            ofDate 0 12 = 86399
            ofDate 0 13 = bad-argument
            ofDate 0 0 = 2030
            ofDate 0 -1 = bad-argument
            """);
        Told.promise(22, "Returns -1 if the first one is AHEAD in ORDER, 1 if the other one is, otherwise 0.", """
            orderDate 0 1 = 0
            orderDate 0 0 = 0
            moveDate 1 7 1 false = 0
            orderDate 0 1 = -1
            orderDate 1 0 = 1
            anew 2 3 false = 0
            orderDate 0 2 = -1
            orderDate 2 0 = 1
            """);
        Told.promise(23, "what: 0 whether the MOMENT of the first one is AHEAD of that of the other one,"
            + " 1 the other way round, 2 whether they are ALIKE, 3 whether they are the SAME", """
            isDate 0 0 0 = false
            isDate 0 0 1 = false
            isDate 0 0 2 = true
            isDate 0 0 3 = true
            anew 2 3 false = 0
            isDate 0 2 0 = false
            isDate 0 2 1 = false
            isDate 0 2 2 = true
            isDate 0 2 3 = false
            moveDate 1 7 1 true = -1
            isDate 1 2 0 = true
            isDate 1 2 1 = false
            isDate 2 1 0 = false
            isDate 2 1 1 = true
            isDate 1 2 2 = false
            """);
    }

    private static void clocksTold() {
        Told.promise(24, "offset: the OFFSET that it has then (as it is now)", """
            clock 0 0 0 1 = -3600
            offset 1 -64800 = 3600
            ofClock 0 4 = 3600
            clock 0 86399 999999999 1 = 151199
            ofClock 0 4 = -64800
            ofClock 0 3 = 999999999
            """);
        Told.promise(25, "A CLOCK becomes the time of the day and the OFFSET of a DATED.", """
            date 0 1910 101 0 0 1 = -21915
            clockOf 0 0 = -3600
            ofClock 0 5 = 0
            date 0 1969 1231 86399 999999999 2 = -1
            clockOf 0 0 = 104399
            ofClock 0 5 = 86399
            ofClock 0 3 = 999999999
            ofClock 0 4 = -18000
            """);
        Told.promise(26, "A DATED gets the time of the day and the OFFSET of a CLOCK (its day stays).", """
            offset 0 -64800 = 0
            clock 0 86399 999999999 0 = 151199
            date 0 2030 1231 0 0 1 = 22279
            strike 0 0 = 22279
            ofDate 0 12 = 86399
            ofDate 0 7 = 999999999
            ofDate 0 9 = -64800
            offset 0 64800 = -64800
            clock 0 0 0 0 = -64800
            date 0 1910 101 86399 5 1 = -21915
            strike 0 0 = -21915
            ofDate 0 12 = 0
            ofDate 0 7 = 0
            ofDate 0 9 = 64800
            """);
        Told.promise(29, "A CLOCK becomes another one (or stays).", """
            clock 1 86399 999999999 2 = 104399
            copyClock 0 1 = 104399
            isClock 0 1 3 = true
            copyClock 1 1 = 104399
            moveClock 0 7 1 false = 18000
            ofClock 1 3 = 999999999
            copyClock 1 2 = 0
            """);
    }

    private static void clocksMoved() {
        Told.promise(28, "its time of the day moves by as many seconds as that is more than its own one (as it moves), or stays", """
            clock 0 86399 999999999 0 = 86399
            anewClock 0 1 false = -1
            ofClock 0 5 = 3599
            ofClock 0 3 = 999999999
            anewClock 0 0 false = 86399
            ofClock 0 5 = 86399
            anewClock 0 2 true = 104399
            ofClock 0 5 = 86399
            ofClock 0 4 = -18000
            offset 0 64800 = 0
            anewClock 0 0 false = 17999
            ofClock 0 5 = 82799
            offset 1 -64800 = 3600
            anewClock 0 1 false = 104399
            ofClock 0 5 = 39599
            anewClock 0 1 false = 104399
            """);
        Told.promise(30, "what: 0 HOUR, 1 MINUTE, 2 SECOND OF THE MINUTE, 3 NANO, 4 its OFFSET, 5 SECOND OF THE DAY", """
            offset 0 64800 = 0
            clock 0 86399 999999999 0 = 21599
            ofClock 0 0 = 23
            ofClock 0 1 = 59
            ofClock 0 2 = 59
            ofClock 0 3 = 999999999
            ofClock 0 4 = 64800
            ofClock 0 5 = 86399
            ofClock 0 6 = bad-argument
            ofClock 0 -1 = bad-argument
            moveClock 0 7 1 false = -64800
            ofClock 0 0 = 0
            ofClock 0 1 = 0
            ofClock 0 2 = 0
            ofClock 0 3 = 0
            """);
    }

    private static void clocksAsked() {
        Told.promise(31, "Returns as orderDate().", """
            orderClock 0 0 = 0
            orderClock 0 1 = 0
            moveClock 1 7 1 true = 86399
            orderClock 0 1 = -1
            orderClock 1 0 = 1
            anewClock 2 2 false = 86400
            orderClock 1 2 = -1
            orderClock 2 1 = 1
            clock 0 86399 999999999 0 = 86399
            clock 1 0 999999999 2 = 18000
            orderClock 0 1 = 1
            clock 1 68399 999999999 2 = 86399
            orderClock 0 1 = 1
            orderClock 1 0 = -1
            """);
        Told.promise(32, "what: as isDate()", """
            isClock 0 0 0 = false
            isClock 0 0 1 = false
            isClock 0 0 2 = true
            isClock 0 0 3 = true
            clock 0 86399 999999999 0 = 86399
            clock 1 68399 999999999 2 = 86399
            isClock 0 1 0 = false
            isClock 0 1 1 = false
            isClock 0 1 2 = true
            isClock 0 1 3 = false
            moveClock 1 7 1 true = 86399
            isClock 0 1 0 = false
            isClock 0 1 1 = true
            isClock 1 0 0 = true
            isClock 0 1 2 = false
            """);
    }

    private static void desk() {
        Told.promise(33, "Returns how often one knocked, with this.", """
            house 0 = 0
            knock = 1
            knock = 2
            house 0 = 2
            """);
        Told.promise(34, "1 how often REFUSED was told", """
            house 1 = 0
            set 0 1 0 = refused
            offset 0 64801 = bad-argument
            moveClock 3 4 0 false = no-such-one
            house 4 = bad-argument
            house 1 = 1
            offsetOf 0 19 0 0 = refused
            house 1 = 2
            """);
        Told.promise(34, "2 which DATED is first in ORDER, 3 which MOMENT is AHEAD of all others"
            + " (of 2 and 3 of several like ones the first one)", """
            house 2 = 0
            house 3 = 0
            moveDate 0 7 1 false = 0
            move 0 2 1 false = 1
            house 2 = 1
            house 3 = 1
            moveDate 3 7 1 true = -1
            move 3 2 1 true = 999999999
            house 2 = 3
            house 3 = 3
            copy 2 3 = -1
            copyMoment 2 3 = 999999999
            house 2 = 2
            house 3 = 2
            anew 3 2 false = -1
            house 2 = 3
            copy 0 3 = -1
            house 2 = 0
            """);
    }

    private static void sound() {
        Told.promise(35, "each DATED, told anew by each OFFSET at the same MOMENT (where that can be told),"
            + " is ALIKE to what it was, and back by its own one the SAME", """
            isSound = true
            offset 0 64800 = 0
            offset 1 -64800 = 3600
            date 0 2030 1231 86399 999999999 1 = 22279
            date 1 1910 101 0 0 0 = -21915
            date 2 2030 1231 86399 999999999 0 = 22279
            date 3 1910 101 0 0 1 = -21915
            isSound = true
            house 1 = 0
            """);
        Told.promise(35, "they are ALIKE just if none of both MOMENTS is AHEAD; ORDER of the one and of the other one"
            + " are each less the other from 0; the SAME have the ORDER 0", """
            anew 1 1 false = 0
            anew 2 2 true = 0
            moveDate 3 7 1 true = -1
            isSound = true
            isDate 0 1 2 = true
            orderDate 0 1 = -1
            orderDate 1 0 = 1
            copy 0 1 = 0
            isDate 0 1 3 = true
            orderDate 0 1 = 0
            isSound = true
            """);
        Told.promise(35, "each MOMENT is that of the DATED that is made of it by each OFFSET", """
            offset 0 64800 = 0
            offset 1 -64800 = 3600
            moment 0 1800000000 999999999 = 999999999
            moment 1 -1800000000 0 = 0
            moment 2 0 -1 = 999999999
            isSound = true
            house 1 = 0
            """);
        Told.promise(35, "a DATED that gets the time of the day and the OFFSET of its own CLOCK is the SAME as it was", """
            date 0 1969 1231 86399 999999999 2 = -1
            date 1 1910 101 0 0 1 = -21915
            isSound = true
            ofDate 0 9 = -18000
            ofClock 0 5 = 0
            """);
    }

    /** The numbers were reckoned by hand from the promise's words, by arithmetic that does not wrap around. */
    private static void digest() {
        Told.promise(36, "A number d starts with 6199; then d becomes d * 31 + v, which wraps around as a 64-bit integer", """
            digest = %d

            knock = 1
            digest = %d

            set 0 1 13 = refused
            digest = %d
            """.formatted(digestOfNew(0, 0), digestOfNew(1, 0), digestOfNew(0, 1)));
    }

    private static long digestOfNew(int knocks, int refusals) {
        return plainDigestOfNew(knocks, refusals).longValue();
    }

    private static BigInteger plainDigestOfNew(int knocks, int refusals) {
        BigInteger sum = BigInteger.valueOf(6199);
        sum = with(sum, 0, 3600, -18000, 20700);
        sum = with(sum, new int[4 * 2]);
        for (int dated = 0; dated < 4; dated++) {
            sum = with(sum, 1970, 1, 1, 1, 0, 0, 0, 0, 4, 0, 0, 0, 0);
        }
        sum = with(sum, new int[3 * 6]);
        for (int pair = 0; pair < 4 * 4; pair++) {
            sum = with(sum, 0, 1);
        }
        sum = with(sum, new int[3 * 3]);
        return with(sum, knocks, refusals, 0, 0, 1);
    }

    private static BigInteger with(BigInteger begin, int... values) {
        BigInteger sum = begin;
        for (int value : values) {
            sum = sum.multiply(BigInteger.valueOf(31)).add(BigInteger.valueOf(value));
        }
        return sum;
    }

    private static void digestWrapsAround() {
        Due.is("36: the number that does not wrap around is beyond 64 bits", true, plainDigestOfNew(0, 0).bitLength() > 64);
        Told.promise(36, "of each two DATED n and m (n by n, m by m, also the same) orderDate(), 1 if they are ALIKE, otherwise 0", """
            digest = %d
            moveDate 3 7 1 false = 0
            digest = %d
            """.formatted(digestOfNew(0, 0), digestOfLastDatedANanoOn()));
    }

    private static long digestOfLastDatedANanoOn() {
        BigInteger sum = with(BigInteger.valueOf(6199), 0, 3600, -18000, 20700);
        sum = with(sum, new int[4 * 2]);
        for (int dated = 0; dated < 4; dated++) {
            sum = with(sum, 1970, 1, 1, 1, 0, 0, 0, dated == 3 ? 1 : 0, 4, 0, 0, 0, 0);
        }
        sum = with(sum, new int[3 * 6]);
        for (int one = 0; one < 4; one++) {
            for (int other = 0; other < 4; other++) {
                boolean isAlike = (one == 3) == (other == 3);
                sum = with(sum, isAlike ? 0 : other == 3 ? -1 : 1, isAlike ? 1 : 0);
            }
        }
        sum = with(sum, new int[3 * 3]);
        return with(sum, 0, 0, 0, 0, 1).longValue();
    }
}
