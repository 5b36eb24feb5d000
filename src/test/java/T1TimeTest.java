import java.time.LocalDate;
import java.time.YearMonth;
import java.time.ZoneOffset;

/** Terms 1: TIME. Every part of one on its edges, and the seconds that are told of it. */
public final class T1TimeTest {
    private static final Check CHECK = new Check();
    private static final Reading READING = new Reading(CHECK);

    public static void main(String[] args) {
        yearsOfTwoDigits();
        generalizedFrom2050On();
        months();
        daysThatThereAre();
        leapYears();
        toTheLastSecond();
        digitsAlone();
        lengths();
        otherTags();
        timesOfLists();
        CHECK.end();
    }

    private static Node utc(int year, int month, int day, String rest) {
        return Node.utc(String.format("%02d%02d%02d%s", year % 100, month, day, rest));
    }

    private static Node general(int year, int month, int day, String rest) {
        return Node.general(String.format("%04d%02d%02d%s", year, month, day, rest));
    }

    private static Maker first(Node time) {
        Maker maker = Reading.certificate();
        maker.times = Node.seq(time, Node.utc("300101000000Z"));
        return maker;
    }

    private static Maker last(Node time) {
        Maker maker = Reading.certificate();
        maker.times = Node.seq(Node.utc("300101000000Z"), time);
        return maker;
    }

    private static void refused(String what, Node time) {
        READING.at(what + ", first", time, first(time));
        READING.at(what + ", last", time, last(time));
    }

    private static void told(String what, Node time, long due) {
        for (int which = 0; which < 2; which++) {
            Store store = new Store();
            try {
                store.certificate(which == 0 ? first(time) : last(time));
                CHECK.same("part(0, " + which + ") of " + what, store.x.part(0, which), due);
            } catch (IllegalArgumentException refused) {
                CHECK.tell(what + " is WRONG at " + store.x.wrong());
            }
        }
    }

    private static long seconds(int year, int month, int day) {
        return LocalDate.of(year, month, day).atStartOfDay().toEpochSecond(ZoneOffset.UTC);
    }

    /** From 50 on 19YY, else 20YY. */
    private static void yearsOfTwoDigits() {
        for (int year = 1950; year < 2050; year++) {
            told("UTCTIME of " + year, utc(year, 1, 1, "000000Z"), seconds(year, 1, 1));
            told("UTCTIME of the end of " + year, utc(year, 12, 31, "235959Z"), seconds(year + 1, 1, 1) - 1);
        }
    }

    private static void generalizedFrom2050On() {
        for (int year : new int[] {0, 1, 49, 50, 1949, 1950, 1970, 1999, 2000, 2020, 2048, 2049}) {
            refused("GENERALIZED of " + year, general(year, 12, 31, "235959Z"));
        }
        for (int year : new int[] {2050, 2051, 2099, 2100, 2149, 3000, 9998, 9999}) {
            told("GENERALIZED of " + year, general(year, 1, 1, "000000Z"), seconds(year, 1, 1));
            told("GENERALIZED of the end of " + year, general(year, 12, 31, "235959Z"),
                seconds(year, 12, 31) + 86399);
        }
    }

    private static void months() {
        for (int month = 0; month < 100; month++) {
            if (month >= 1 && month <= 12) {
                told("month " + month, utc(2021, month, 1, "000000Z"), seconds(2021, month, 1));
                told("month " + month + " of 2050", general(2050, month, 1, "000000Z"), seconds(2050, month, 1));
            } else {
                refused("month " + month, utc(2021, month, 1, "000000Z"));
                refused("month " + month + " of 2050", general(2050, month, 1, "000000Z"));
            }
        }
    }

    private static void day(boolean isLong, int year, int month, int day) {
        Node time = isLong ? general(year, month, day, "000000Z") : utc(year, month, day, "000000Z");
        String what = year + "-" + month + "-" + day;
        if (day >= 1 && day <= YearMonth.of(year, month).lengthOfMonth()) {
            told(what, time, seconds(year, month, day));
        } else {
            refused(what, time);
        }
    }

    private static void daysThatThereAre() {
        for (int month = 1; month <= 12; month++) {
            for (int day = 0; day < 33; day++) {
                day(false, 2023, month, day);
                day(false, 2024, month, day);
            }
            for (int day : new int[] {0, 1, 28, 29, 30, 31, 32, 99}) {
                day(true, 2100, month, day);
                day(true, 2400, month, day);
            }
        }
    }

    private static void leapYears() {
        for (int year = 1950; year < 2050; year++) {
            day(false, year, 2, 28);
            day(false, year, 2, 29);
            day(false, year, 3, 1);
        }
        for (int year = 2050; year < 2510; year++) {
            day(true, year, 2, 29);
            day(true, year, 3, 1);
        }
        day(true, 4000, 2, 29);
        day(true, 9900, 2, 29);
    }

    private static void toTheLastSecond() {
        for (int n = 0; n < 100; n++) {
            String two = String.format("%02d", n);
            clock(two + "0000", n < 24, n * 3600L);
            clock("00" + two + "00", n < 60, n * 60L);
            clock("0000" + two, n < 60, n);
            clock("23" + two + "59", n < 60, 23 * 3600 + n * 60L + 59);
            clock("2359" + two, n < 60, 23 * 3600 + 59 * 60 + n);
        }
        told("the second before 1970", Node.utc("691231235959Z"), -1);
        told("1970", Node.utc("700101000000Z"), 0);
        told("the second behind that", Node.utc("700101000001Z"), 1);
    }

    private static void clock(String time, boolean stands, long due) {
        if (stands) {
            told("at " + time, utc(2021, 6, 15, time + "Z"), seconds(2021, 6, 15) + due);
            told("at " + time + " in 2051", general(2051, 6, 15, time + "Z"), seconds(2051, 6, 15) + due);
        } else {
            refused("at " + time, utc(2021, 6, 15, time + "Z"));
            refused("at " + time + " in 2051", general(2051, 6, 15, time + "Z"));
        }
    }

    /** Each place of a TIME holds one that stands, those just beside the digits, and what else might pass for one. */
    private static void digitsAlone() {
        for (String text : new String[] {"111111111111Z", "21111111111111Z"}) {
            int tag = text.length() == 13 ? 0x17 : 0x18;
            READING.stands(text, first(Node.text(tag, text)));
            for (int at = 0; at < text.length(); at++) {
                for (char sign : new char[] {'/', ':', ' ', '+', '-', 'a', 0, '\u00b1', '\u00ff', 'z', 'Y', '['}) {
                    String bad = text.substring(0, at) + sign + text.substring(at + 1);
                    refused(bad, Node.text(tag, bad));
                }
            }
            for (int digit = 0; digit < 10; digit++) {
                String bad = text.substring(0, text.length() - 1) + digit;
                refused(bad, Node.text(tag, bad));
            }
        }
    }

    private static void lengths() {
        for (int tag : new int[] {0x17, 0x18}) {
            String whole = tag == 0x17 ? "210101010101Z" : "20510101010101Z";
            READING.stands(whole, last(Node.text(tag, whole)));
            for (int size = 0; size < whole.length(); size++) {
                refused("the beginning of it", Node.text(tag, whole.substring(0, size)));
                refused("its end", Node.text(tag, whole.substring(whole.length() - size)));
            }
            String digits = whole.substring(0, whole.length() - 1);
            for (String tail : new String[] {"ZZ", "Z0", "0Z", ".0Z", ".Z", "+0000", "-0000", " Z", "Z "}) {
                refused(digits + tail, Node.text(tag, digits + tail));
            }
        }
        refused("GENERALIZED as UTCTIME", Node.utc("20510101010101Z"));
        refused("UTCTIME as GENERALIZED", Node.general("510101010101Z"));
    }

    private static void otherTags() {
        for (int tag = 0; tag < 256; tag++) {
            if (tag != 0x17 && tag != 0x18) {
                refused("a TIME of tag " + tag, Node.text(tag, "210101010101Z"));
            }
        }
    }

    private static void timesOfLists() {
        for (int which = 0; which < 3; which++) {
            for (String text : new String[] {"210228235959Z", "210229000000Z", "210101240000Z", "491231235959Z"}) {
                boolean stands = text.equals("210228235959Z") || text.equals("491231235959Z");
                Node time = Node.utc(text);
                READING.either("TIME " + which + " of a LIST", stands, time, listWith(which, time));
            }
            for (String text : new String[] {"20500101000000Z", "20491231235959Z", "20500229000000Z"}) {
                Node time = Node.general(text);
                READING.either("GENERALIZED " + which + " of a LIST", text.equals("20500101000000Z"), time,
                    listWith(which, time));
            }
        }
    }

    private static Maker listWith(int which, Node time) {
        Maker list = Reading.list();
        if (which == 0) {
            list.first = time;
        } else if (which == 1) {
            list.last = time;
        } else {
            list.entries.add(Node.seq(Node.integer(1), time));
        }
        return list;
    }
}
