/** Promises 4 (read) and 5 (fault): what is right, and the fault of what is not. */
public final class ReadTest {
    private static final int TIME = 1;
    private static final int ZONE = 2;
    private static final int YEAR = 3;
    private static final Checks CHECKS = new Checks();

    public static void main(String[] args) {
        kinds();
        shortTexts();
        shortFaults();
        longTexts();
        longFaults();
        zoneFaults();
        everyCut();
        everyWrongByte();
        years();
        days();
        parts();
        longestParts();
        faultAfterFault();
        CHECKS.finish();
    }

    private static void kinds() {
        ClockTexts x = Checks.reading(1, "20010203040506.78Z");
        Checks.put(x, "2001020304");
        CHECKS.dueThrow("5: read(1)", IllegalArgumentException.class, () -> x.read(1));
        CHECKS.due("5: fault", x.fault(), ZONE);
        Checks.put(x, "20010203040506.78Z");
        int[] wrong = {2, -1, 3, Integer.MIN_VALUE, Integer.MAX_VALUE};
        for (int kind : wrong) {
            CHECKS.dueThrow("4: read(" + kind + ")", IllegalArgumentException.class, () -> x.read(kind));
            CHECKS.due("4: no such kind leaves the text", x.count(0), 18);
            CHECKS.due("4: no such kind leaves the fault", x.fault(), ZONE);
        }
        CHECKS.due("4: read(1)", x.read(1), 18);
        CHECKS.dueThrow("4: read(2)", IllegalArgumentException.class, () -> x.read(2));
        CHECKS.due("4: no such kind leaves what is written", x.count(1), 18);
        CHECKS.due("4: no such kind leaves the time", x.unit(5), 6);
        CHECKS.due("4: no such kind is no fault", x.fault(), 0);
    }

    private static void shortTexts() {
        CHECKS.dueWritten(0, "700102030405Z", "700102030405Z");
        CHECKS.dueWritten(0, "7001020304Z", "700102030400Z");
        CHECKS.dueWritten(0, "7001020304+0000", "700102030400Z");
        CHECKS.dueWritten(0, "7001020304-0000", "700102030400Z");
        CHECKS.dueWritten(0, "700102030405+0104", "700102020005Z");
        CHECKS.dueWritten(0, "700102030405-0158", "700102050205Z");
        CHECKS.dueWritten(0, "700101000000+2359", "691231000100Z");
        CHECKS.dueWritten(0, "991231235959-2359", "000101235859Z");
        CHECKS.dueWritten(0, "0003010030+0031", "000229235900Z");
        CHECKS.dueWritten(0, "0103010030+0031", "010228235900Z");
        CHECKS.dueWritten(0, "0002282330-0030", "000229000000Z");
        CHECKS.dueWritten(0, "0102282330-0030", "010301000000Z");
    }

    private static void shortFaults() {
        String[] wrong = {
            "", "Z", "7", "70", "700102", "70010203Z", "7001020304", "700102030405", "70010203040Z",
            "7000020304Z", "7013020304Z", "7001000304Z", "7001320304Z", "7004310304Z", "7002290304Z",
            "7001022404Z", "7001020360Z", "700102030460Z", "7001020304z", "7001020304ZZ", "7001020304Z0",
            "7001020304.5Z", "700102030405.5Z", "700102030405,5Z", "7001020304+", "7001020304+0",
            "7001020304+00", "7001020304+000", "7001020304+00000", "7001020304+2400", "7001020304+0060",
            "7001020304+0000Z", "7001020304*0000", "7001020304 0000", "19700102030405Z",
            "70010203040506Z", " 7001020304Z", "700102030405+00Z", "7001020304+00Z0",
        };
        for (String text : wrong) {
            CHECKS.dueFault(0, text, TIME);
        }
    }

    private static void longTexts() {
        CHECKS.dueWritten(1, "19700102030405Z", "19700102030405Z");
        CHECKS.dueWritten(1, "197001020304Z", "19700102030400Z");
        CHECKS.dueWritten(1, "1970010203Z", "19700102030000Z");
        CHECKS.dueWritten(1, "1970010203+01", "19700102020000Z");
        CHECKS.dueWritten(1, "1970010203-01", "19700102040000Z");
        CHECKS.dueWritten(1, "1970010203+0130", "19700102013000Z");
        CHECKS.dueWritten(1, "1970010203-2359", "19700103025900Z");
        CHECKS.dueWritten(1, "19700102030405.5+23", "19700101040405.5Z");
        CHECKS.dueWritten(1, "197001020304-0000", "19700102030400Z");
        CHECKS.dueWritten(1, "0000022900Z", "00000229000000Z");
    }

    private static void longFaults() {
        String[] wrong = {
            "", "Z", "1970", "19700102", "19700102Z", "19700102.5Z", "197001020Z", "1970010203Z0",
            "1970010203ZZ", "19700102030Z", "1970010203040Z", "1970010203040506Z", "197001020304050Z",
            "19700002030405Z", "19701302030405Z", "19700100030405Z", "19700132030405Z",
            "19700102240405Z", "19700102036005Z", "19700102030460Z", "1970010203.Z", "1970010203,Z",
            "1970010203.", "197001020304.", "19700102030405.", "19700102030405,+00", "19700102030405.5.5Z",
            "19700102030405..5Z", "19700102030405.,5Z", "19700102030405:5Z", "19700102030405.5z",
            "19700102030405.5 Z", "-9700102030405Z", "+19700102030405Z", "7010130304Z", "1970010203.5Z5",
            "19700102030405.5Z\0", "1970010203\u00b2\u00b3Z", "19700102030405.\u00b2Z", "\u00ff",
        };
        for (String text : wrong) {
            CHECKS.dueFault(1, text, TIME);
        }
    }

    private static void zoneFaults() {
        String[] noZone = {
            "1970010203", "197001020304", "19700102030405", "1970010203.5", "197001020304,5",
            "19700102030405.000", "0000010100", "99991231235959",
        };
        for (String text : noZone) {
            CHECKS.dueFault(1, text, ZONE);
        }
        String[] wrongBefore = {
            "1970010224", "197001020360", "19700102030460", "1970022903", "1970130203", "19700102030",
            "1970010203040", "1970010203.", "1970010203040506",
        };
        for (String text : wrongBefore) {
            CHECKS.dueFault(1, text, TIME);
        }
        String[] wrongZones = {
            "+", "-", "+0", "+24", "-24", "+000", "+0060", "-0060", "+00000", "+00Z", "+0000Z", "+-1", "+0:00",
            "+00:00", "+00.0", "+99", "z", "+00-0",
        };
        for (String zone : wrongZones) {
            CHECKS.dueFault(1, "1970010203" + zone, TIME);
            CHECKS.dueFault(1, "19700102030405.25" + zone, TIME);
        }
    }

    private static void everyCut() {
        String right = "19700102030405.25+0130";
        int[] due = {1, 1, 1, 1, 1, 1, 1, 1, 1, 1, ZONE, 1, ZONE, 1, ZONE, 1, ZONE, ZONE, 1, 1, 0, 1, 0};
        for (int length = 0; length < due.length; length++) {
            String text = right.substring(0, length);
            if (due[length] != 0) {
                CHECKS.dueFault(1, text, due[length]);
            } else {
                CHECKS.due("4: " + text, Checks.reading(1, text).count(1), 18);
            }
        }
        String rightShort = "700102030405+0130";
        for (int length = 0; length < rightShort.length(); length++) {
            CHECKS.dueFault(0, rightShort.substring(0, length), TIME);
        }
    }

    private static void everyWrongByte() {
        String[] rights = {"700102030405+0130", "19700102030405.25+0130"};
        for (int kind = 0; kind <= 1; kind++) {
            for (int i = 0; i < rights[kind].length(); i++) {
                for (char wrong : new char[] {'/', ':', '\0', '\u0080', '\u00b0', '\u00ff', 'A'}) {
                    String text = rights[kind].substring(0, i) + wrong + rights[kind].substring(i + 1);
                    CHECKS.dueFault(kind, text, TIME);
                }
            }
        }
    }

    private static void years() {
        CHECKS.dueWritten(0, "500101000000Z", "500101000000Z");
        CHECKS.dueWritten(0, "491231235959Z", "491231235959Z");
        CHECKS.dueFault(0, "500101000000+0001", YEAR);
        CHECKS.dueFault(0, "491231235959-0001", YEAR);
        CHECKS.dueFault(0, "5001012358+2359", YEAR);
        CHECKS.dueWritten(0, "5001012359+2359", "500101000000Z");
        CHECKS.dueFault(0, "4912310001-2359", YEAR);
        CHECKS.dueWritten(0, "4912310000-2359", "491231235900Z");
        CHECKS.dueFault(0, "500101000000+0001Z", TIME);
        CHECKS.dueWritten(1, "0000010100Z", "00000101000000Z");
        CHECKS.dueWritten(1, "99991231235959.999Z", "99991231235959.999Z");
        CHECKS.dueFault(1, "0000010100+0001", YEAR);
        CHECKS.dueFault(1, "0000010122.99+23", YEAR);
        CHECKS.dueWritten(1, "0000010123+23", "00000101000000Z");
        CHECKS.dueFault(1, "99991231235959-0001", YEAR);
        CHECKS.dueFault(1, "9999123101-23", YEAR);
        CHECKS.dueWritten(1, "9999123100.99999-23", "99991231235959.964Z");
        CHECKS.dueFault(1, "9999123101-23Z", TIME);
        CHECKS.dueFault(1, "9999123101-230", TIME);
        CHECKS.dueFault(1, "9999123101", ZONE);
        CHECKS.dueWritten(1, "1949123123-0100", "19500101000000Z");
        CHECKS.dueWritten(1, "0001010100-00", "00010101000000Z");
    }

    private static void days() {
        int[] days = {31, 28, 31, 30, 31, 30, 31, 31, 30, 31, 30, 31};
        int[] years = {0, 1, 4, 100, 200, 300, 400, 1900, 1999, 2000, 2004, 2100, 2400, 9996, 9999};
        boolean[] leap = {true, false, true, false, false, false, true, false, false, true, true, false,
            true, true, false};
        for (int y = 0; y < years.length; y++) {
            for (int month = 1; month <= 12; month++) {
                int last = days[month - 1] + (month == 2 && leap[y] ? 1 : 0);
                String begin = String.format("%04d%02d", years[y], month);
                CHECKS.dueWritten(1, begin + last + "23Z", begin + last + "230000Z");
                CHECKS.dueFault(1, begin + (last + 1) + "23Z", TIME);
                CHECKS.dueFault(1, begin + "0023Z", TIME);
            }
        }
        CHECKS.dueFault(0, "9902290000Z", TIME);
        CHECKS.dueFault(0, "5002290000Z", TIME);
        CHECKS.dueWritten(0, "0002290000Z", "000229000000Z");
        CHECKS.dueWritten(0, "4802290000Z", "480229000000Z");
        CHECKS.dueWritten(0, "5202290000Z", "520229000000Z");
    }

    private static void parts() {
        CHECKS.dueWritten(1, "2000010203.5Z", "20000102033000Z");
        CHECKS.dueWritten(1, "2000010203,25+01", "20000102021500Z");
        CHECKS.dueWritten(1, "2000010203.0001Z", "20000102030000.36Z");
        CHECKS.dueWritten(1, "2000010203.123456789Z", "20000102030724.4444404Z");
        CHECKS.dueWritten(1, "2000010203.9Z", "20000102035400Z");
        CHECKS.dueWritten(1, "2000010203.99Z", "20000102035924Z");
        CHECKS.dueWritten(1, "2000010203.999999Z", "20000102035959.9964Z");
        CHECKS.dueWritten(1, "200001020304.5Z", "20000102030430Z");
        CHECKS.dueWritten(1, "200001020304.123456789Z", "20000102030407.40740734Z");
        CHECKS.dueWritten(1, "200001020304,05Z", "20000102030403Z");
        CHECKS.dueWritten(1, "200001020304,050100Z", "20000102030403.006Z");
        CHECKS.dueWritten(1, "20000102030405.1234500Z", "20000102030405.12345Z");
        CHECKS.dueWritten(1, "20000102030405,0Z", "20000102030405Z");
        CHECKS.dueWritten(1, "20000102030405.0000100Z", "20000102030405.00001Z");
        CHECKS.dueWritten(1, "200001020304.000Z", "20000102030400Z");
        CHECKS.dueWritten(1, "2000010203.000Z", "20000102030000Z");
    }

    private static void longestParts() {
        String nines = Checks.repeat("9", 228);
        CHECKS.dueWritten(1, "2000010203." + nines + "Z",
                "20000102035959." + Checks.repeat("9", 224) + "64Z");
        CHECKS.dueWritten(1, "200001020304." + Checks.repeat("9", 226) + "Z",
                "20000102030459." + Checks.repeat("9", 224) + "4Z");
        CHECKS.dueWritten(1, "20000102030405." + Checks.repeat("9", 224) + "Z",
                "20000102030405." + Checks.repeat("9", 224) + "Z");
        CHECKS.dueWritten(1, "2000010203." + Checks.repeat("0", 227) + "1Z",
                "20000102030000." + Checks.repeat("0", 224) + "36Z");
        CHECKS.dueWritten(1, "2000010203." + Checks.repeat("0", 228) + "Z", "20000102030000Z");
        CHECKS.dueFault(1, "2000010203." + Checks.repeat("9", 229), ZONE);
        CHECKS.dueFault(1, "2000010203." + Checks.repeat("9", 228) + "+", TIME);
        CHECKS.dueFault(1, Checks.repeat("1", 240), TIME);
        CHECKS.dueFault(0, Checks.repeat("1", 240), TIME);
        ClockTexts x = Checks.reading(1, "2000010203." + nines + "Z");
        CHECKS.due("9: digits of the longest part", x.unit(6), 226);
    }

    private static void faultAfterFault() {
        ClockTexts x = new ClockTexts();
        String[] texts = {"1970010203", "0000010100+01", "1970010203Z", "x", "1970010203Z"};
        int[] due = {ZONE, YEAR, 0, TIME, 0};
        for (int i = 0; i < texts.length; i++) {
            Checks.put(x, texts[i]);
            if (due[i] == 0) {
                CHECKS.due("4: read " + texts[i], x.read(1), 15);
            } else {
                CHECKS.dueThrow("4: read " + texts[i], IllegalArgumentException.class, () -> x.read(1));
            }
            CHECKS.due("5: fault of " + texts[i], x.fault(), due[i]);
            x.feed(0, 0, 0, 0);
            CHECKS.due("5: a feed leaves the fault of " + texts[i], x.fault(), due[i]);
            x.end(0);
        }
    }
}
