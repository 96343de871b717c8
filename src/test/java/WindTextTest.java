/**
 * The text of the winds at its edges (P6 to P9): which bytes are TOKENS, which NUMBERS are taken, the 20 CLAUSES and
 * 200 bytes, FAULTS and their places, the round that the winds go.
 */
public final class WindTextTest {
    private static final int NONE = -1;
    private static final String[] WORDS = {"inland", "seaward", "up", "down", "calm"};

    public static void main(String[] args) {
        Checks.mustEnd();
        emptyTexts();
        onlyByte32IsBlank();
        blanksBetweenTokens();
        letters();
        digits();
        otherBytesAreNone();
        words();
        numbersTold();
        twentyClauses();
        twentyFirstClause();
        twoHundredBytes();
        tokensThatCannotStand();
        endOfTheText();
        theFirstFaultCounts();
        ofOneTheLeast();
        bytesInOrder();
        bytesBehindTheEndAreGone();
        latestWinds();
        roundOfOneClause();
        roundOfMany();
        roundOfTwenty();
        roundOfSixtyDays();
        fromTheirFirstOne();
        Checks.close("WindTextTest");
    }

    private static void due(String what, long want, long got) {
        Checks.due(what, want, got);
    }

    private static void good(String promise, String text, int clauses) {
        DuneBench x = new DuneBench(4, 2);
        due(promise + " winds() of '" + text + "'", clauses, Checks.blow(x, text));
        due(promise + " CLAUSES of '" + text + "'", clauses, x.about(7));
        due(promise + " fault(0) of '" + text + "'", 0, x.fault(0));
        due(promise + " fault(1) of '" + text + "'", NONE, x.fault(1));
        due(promise + " the tape is empty behind '" + text + "'", 0, x.about(9));
    }

    /** Former winds, down 2, stay. */
    private static void faulty(String promise, String text, int kind, int place) {
        DuneBench x = new DuneBench(4, 2);
        Checks.blow(x, "down 2;");
        due(promise + " winds() of '" + text + "'", NONE, Checks.blow(x, text));
        due(promise + " fault(0) of '" + text + "'", kind, x.fault(0));
        due(promise + " fault(1) of '" + text + "'", place, x.fault(1));
        due(promise + " the former CLAUSES stay behind '" + text + "'", 1, x.about(7));
        due(promise + " the former wind stays behind '" + text + "'", 3, x.about(8));
        due(promise + " the tape is empty behind '" + text + "'", 0, x.about(9));
    }

    /** P8: '{CLAUSE}': none at all is fine; 'without any all is calm'. */
    private static void emptyTexts() {
        good("P8", "", 0);
        good("P8", " ", 0);
        good("P8", " ".repeat(200), 0);
        DuneBench x = new DuneBench(4, 2);
        due("P8 at first all is calm", 4, x.about(8));
        Checks.blow(x, "up 3;");
        due("P8 up", 2, x.about(8));
        Checks.blow(x, "  ");
        due("P8 without any all is calm", 4, x.about(8));
        x.heap(5, 1);
        x.days(60);
        due("P8 nothing is lifted by calm", 1, x.cell(5, 0));
        due("P8 nothing comes by calm", 0, x.about(6));
    }

    /** P8: 'blanks (32) aside'. */
    private static void onlyByte32IsBlank() {
        good("P8", "up 3;", 1);
        for (int b : new int[] {0, 9, 10, 11, 12, 13, 31, 33, 160, 255}) {
            faulty("P9", "up" + (char) b + "3;", 1, 2);
            faulty("P9", "up 3;" + (char) b, 1, 5);
            faulty("P9", (char) b + "up 3;", 1, 0);
        }
    }

    /** P8: blanks may stand between all TOKENS, or none, but not inside one. */
    private static void blanksBetweenTokens() {
        good("P8", "up1;down2;calm3;", 3);
        good("P8", "  up  1  ;  down  2  ;  ", 2);
        good("P8", "up " + " ".repeat(190) + "1;", 1);
        faulty("P9", "u p 1;", 1, 0);
        faulty("P9", "in land 1;", 1, 0);
        faulty("P9", "up 1 2;", 1, 5);
        faulty("P9", "up 6 0;", 1, 5);
    }

    /** P8: 'letters a .. z, A .. Z one behind the other' are one TOKEN. */
    private static void letters() {
        for (char c : new char[] {'a', 'z', 'A', 'Z', 'm', 'M'}) {
            // It goes on with the word, whose place its fault has then.
            faulty("P9", "calm 1; up" + c + " 3;", 1, 8);
            faulty("P9", "calm 1; " + c + "up 3;", 1, 8);
        }
        // '@' and '[' stand beside A and Z, '`' and '{' beside a and z.
        for (char c : new char[] {'@', '[', '`', '{'}) {
            faulty("P9", "calm 1; up" + c + " 3;", 1, 10);
            faulty("P9", "calm 1; " + c + "up 3;", 1, 8);
        }
        faulty("P9", "up 3x;", 1, 4);
        faulty("P9", "upup 3;", 1, 0);
    }

    /** P8: 'digits one behind the other (NUMBERS)'. */
    private static void digits() {
        good("P8", "up 10;down 29;up 38;up 47;up 56;", 5);
        // '/' and ':' stand beside 0 and 9.
        for (char c : new char[] {'/', ':', '.', '-', '+', ','}) {
            faulty("P9", "up 1" + c + ";", 1, 4);
            faulty("P9", "up " + c + "1;", 1, 3);
        }
        faulty("P9", "1up 3;", 1, 0);
    }

    /** P9: '1 it can't stand there, or is none': whatever is no letter, digit, blank or ;. */
    private static void otherBytesAreNone() {
        for (int b = 0; b < 256; b++) {
            boolean letter = b >= 'a' && b <= 'z' || b >= 'A' && b <= 'Z';
            boolean digit = b >= '0' && b <= '9';
            if (!letter && !digit && b != ' ' && b != ';') {
                DuneBench x = new DuneBench(4, 2);
                Checks.blow(x, "up 3;  " + (char) b);
                due("P9 byte " + b + " as a TOKEN", 1, x.fault(0));
                due("P9 the place of byte " + b, 7, x.fault(1));
            }
        }
    }

    /** P8: 'by WORDS: inland, seaward, up, down, calm', wholly and in small letters. */
    private static void words() {
        for (int w = 0; w < WORDS.length; w++) {
            String word = WORDS[w];
            DuneBench x = new DuneBench(4, 2);
            due("P8 " + word, 1, Checks.blow(x, word + " 1;"));
            due("P8 the wind of " + word, w, x.about(8));
            faulty("P9", word.substring(1) + " 1;", 1, 0);
            faulty("P9", word.substring(0, word.length() - 1) + " 1;", 1, 0);
            faulty("P9", word + "s 1;", 1, 0);
            faulty("P9", word + word + " 1;", 1, 0);
            faulty("P9", word.toUpperCase() + " 1;", 1, 0);
            faulty("P9", word.substring(0, 1).toUpperCase() + word.substring(1) + " 1;", 1, 0);
            faulty("P9", word.substring(0, word.length() - 1) + "x 1;", 1, 0);
        }
    }

    /** P8, P9: '(1 .. 60 DAYS)', '2 a NUMBER that isn't one of those told'. */
    private static void numbersTold() {
        for (String n : new String[] {"1", "2", "59", "60", "01", "060", "0".repeat(180) + "60"}) {
            good("P8", "up " + n + ";", 1);
        }
        String[] others = {"0", "00", "61", "061", "99", "100", "600", "1000", "1001", "2147483647", "2147483648", "4294967296",
            "4294967297", "4294967356", "18446744073709551617", "9".repeat(190), "1" + "0".repeat(189), "6" + "0".repeat(32)};
        for (String n : others) {
            faulty("P9", "up " + n + ";", 2, 3);
            faulty("P9", "up " + n, 2, 3);
        }
        faulty("P9", "up 60;down 61;", 2, 11);
        for (String word : WORDS) {
            good("P8", word + " 1;" + word + " 60;", 2);
            faulty("P9", word + " 0;", 2, word.length() + 1);
            faulty("P9", word + " 61;", 2, word.length() + 1);
        }
    }

    /** P8: '20 of them at most', also with blanks behind. */
    private static void twentyClauses() {
        good("P8", "up 1;".repeat(19), 19);
        good("P8", "up 1;".repeat(20), 20);
        good("P8", "up 1;".repeat(20) + "     ", 20);
    }

    /** P9: '3 the 21st CLAUSE (at its word)'. */
    private static void twentyFirstClause() {
        String twenty = "up 1;".repeat(20);
        for (String word : WORDS) {
            faulty("P9", twenty + word + " 1;", 3, 100);
            faulty("P9", twenty + "   " + word, 3, 103);
            faulty("P9", twenty + word + " 99;", 3, 100);
            faulty("P9", twenty + word + ";", 3, 100);
        }
        faulty("P9", "up1;".repeat(40), 3, 80);
        // What is no CLAUSE's word isn't the 21st CLAUSE.
        faulty("P9", twenty + ";", 1, 100);
        faulty("P9", twenty + "1", 1, 100);
        faulty("P9", twenty + "Up 1;", 1, 100);
        faulty("P9", twenty + "#", 1, 100);
        // A fault of the 20th comes first.
        faulty("P9", "up 1;".repeat(19) + "up 61;up 1;", 2, 98);
        faulty("P9", "up 1;".repeat(19) + "up 1 up 1;", 1, 100);
    }

    /** P6, P8: 'a text of up to 200 bytes', all of which are read. */
    private static void twoHundredBytes() {
        good("P8", "inland 60;".repeat(20), 20);
        good("P8", " ".repeat(195) + "up 1;", 1);
        good("P8", "up" + " ".repeat(196) + "1;", 1);
        faulty("P9", " ".repeat(199) + "#", 1, 199);
        faulty("P9", " ".repeat(195) + "up 61", 2, 198);
        faulty("P9", "inland 60;".repeat(19) + "inland 60 ", 1, 200);
        faulty("P9", "inland 60;".repeat(19) + "inland60;x", 1, 199);
        faulty("P9", "a".repeat(200), 1, 0);
        faulty("P9", "1".repeat(200), 1, 0);
        faulty("P9", ";".repeat(200), 1, 0);
        faulty("P9", "up1;".repeat(50), 3, 80);
    }

    /** P9: '1 it can't stand there': CLAUSE is WORD NUMBER ; and nothing else. */
    private static void tokensThatCannotStand() {
        faulty("P9", ";", 1, 0);
        faulty("P9", "  ;", 1, 2);
        faulty("P9", "5", 1, 0);
        faulty("P9", "up ;", 1, 3);
        faulty("P9", "up up", 1, 3);
        faulty("P9", "up 5 up", 1, 5);
        faulty("P9", "up 5 5", 1, 5);
        faulty("P9", "up 5;;", 1, 5);
        faulty("P9", "up 5; 5", 1, 6);
        faulty("P9", "up 5; gust 5;", 1, 6);
    }

    /** P9: 'of the end at the length': a text that ends within a CLAUSE. */
    private static void endOfTheText() {
        faulty("P9", "up", 1, 2);
        faulty("P9", "up  ", 1, 4);
        faulty("P9", "up 5", 1, 4);
        faulty("P9", "up 5   ", 1, 7);
        faulty("P9", "up 5; down", 1, 10);
        faulty("P9", "up 5; down 60", 1, 13);
        // A part of a word is a TOKEN that can't stand there, not the end.
        faulty("P9", "up 5; dow", 1, 6);
    }

    /** P9: 'the first as TOKENS are come to'. */
    private static void theFirstFaultCounts() {
        faulty("P9", "up 61; # 99", 2, 3);
        faulty("P9", "# up 61;", 1, 0);
        faulty("P9", "up 1; up 0; up 1 1;", 2, 9);
        faulty("P9", "up 1; up 1 1; up 0;", 1, 11);
        faulty("P9", "up 0 up 0", 2, 3);
    }

    /** P9: 'of one the least': a TOKEN with several FAULTS. */
    private static void ofOneTheLeast() {
        // A NUMBER of none told, where none can stand.
        faulty("P9", "61", 1, 0);
        faulty("P9", "up 1 61;", 1, 5);
        faulty("P9", "up 1; 0 up;", 1, 6);
        // No word, where the 21st CLAUSE would be.
        faulty("P9", "up 1;".repeat(20) + "north 1;", 1, 100);
        faulty("P9", "up 1;".repeat(20) + "61", 1, 100);
    }

    /** P6: 'Twenty bytes come behind the tape, the highest of a first'. */
    private static void bytesInOrder() {
        for (int place = 0; place < 20; place++) {
            byte[] bytes = Checks.bytes(" ".repeat(place) + "\u00e9" + " ".repeat(19 - place));
            int[] f = Checks.five(bytes, 0);
            DuneBench x = new DuneBench(4, 2);
            due("P6 feed", 20, x.feed(f[0], f[1], f[2], f[3], f[4]));
            due("P6 feed again", 40, x.feed(0x20202020, 0x20202020, 0x20202020, 0x20202020, 0x20202020));
            due("P6 feed once more", 60, x.feed(f[0], f[1], f[2], f[3], f[4]));
            due("P6 winds()", NONE, x.winds());
            due("P6 the place of byte " + place, place, x.fault(1));
        }
        DuneBench x = new DuneBench(4, 2);
        x.feed(0x75702031, 0x3b202020, 0x20202020, 0x20202020, 0x2020646f);
        x.feed(0x776e2032, 0x3b202020, 0x20202020, 0x20202020, 0x20202020);
        due("P6 a word over the seam of two feeds", 2, x.winds());
        x.days(1);
        due("P6 is that word", 3, x.about(8));
    }

    /** P7: 'The tape has its first n bytes alone'. */
    private static void bytesBehindTheEndAreGone() {
        DuneBench x = new DuneBench(4, 2);
        x.feed(0x75702031, 0x303b2323, 0x23232323, 0x23232323, 0x23232323);
        x.end(4);
        // "up 1" and then "0;", not the "0;####" that stood there.
        due("P7 feed behind 4", 24, x.feed(0x303b2020, 0x20202020, 0x20202020, 0x20202020, 0x20202020));
        due("P7 winds()", 1, x.winds());
        x.days(9);
        due("P7 of 10 days", 2, x.about(8));
        x.feed(0x75702031, 0x3b232323, 0x23232323, 0x23232323, 0x23232323);
        x.end(0);
        due("P7 winds() of a tape that has no bytes", 0, x.winds());
        x.feed(0x75702031, 0x3b232323, 0x23232323, 0x23232323, 0x23232323);
        x.end(5);
        due("P7 winds() of its first 5 bytes", 1, x.winds());
        x.feed(0x75702031, 0x3b232323, 0x23232323, 0x23232323, 0x23232323);
        x.end(4);
        due("P7 winds() of its first 4 bytes", NONE, x.winds());
        due("P7 the end is its place", 4, x.fault(1));
    }

    /** P9: 'Of the latest winds()': a good one, a faulty one and a good one. */
    private static void latestWinds() {
        DuneBench x = new DuneBench(4, 2);
        Checks.blow(x, "up 1;");
        due("P9 of a good one", 0, x.fault(0));
        Checks.blow(x, "up 1; up 61;");
        due("P9 of a faulty one", 2, x.fault(0));
        due("P9 its place", 9, x.fault(1));
        Checks.write(x, "#");
        x.end(0);
        x.days(1);
        due("P9 feed() and end() are no winds()", 2, x.fault(0));
        due("P9 the place stays", 9, x.fault(1));
        Checks.blow(x, "#");
        due("P9 of another", 1, x.fault(0));
        due("P9 its place", 0, x.fault(1));
        x.winds();
        due("P9 of an empty one", 0, x.fault(0));
        due("P9 no place", NONE, x.fault(1));
    }

    /** P8: 'They go round ... from the first again': one alone. */
    private static void roundOfOneClause() {
        DuneBench x = new DuneBench(4, 2);
        Checks.blow(x, "down 1;");
        for (int day = 0; day < 5; day++) {
            due("P8 one CLAUSE of one DAY, day " + day, 3, x.about(8));
            x.days(1);
        }
    }

    /** P8: 'the first DAYS by the first one, and so on, from the first again'. */
    private static void roundOfMany() {
        DuneBench x = new DuneBench(4, 2);
        Checks.blow(x, "seaward 1; up 2; calm 3; down 1;");
        int[] round = {1, 2, 2, 4, 4, 4, 3};
        for (int day = 0; day < 30; day++) {
            due("P8 the wind of day " + day, round[day % 7], x.about(8));
            x.days(1);
        }
    }

    /** P8: the 20th CLAUSE is followed by the first. */
    private static void roundOfTwenty() {
        DuneBench x = new DuneBench(4, 2);
        Checks.blow(x, "up1;".repeat(19) + "down1;");
        x.days(19);
        due("P8 the 20th CLAUSE", 3, x.about(8));
        x.days(1);
        due("P8 the first again", 2, x.about(8));
        x.days(19);
        due("P8 the 20th again", 3, x.about(8));
    }

    /** P8: 60 DAYS of one CLAUSE, to the last of them. */
    private static void roundOfSixtyDays() {
        DuneBench x = new DuneBench(4, 2);
        Checks.blow(x, "up 60; down 1;");
        x.days(59);
        due("P8 its 60th DAY is to come", 2, x.about(8));
        x.days(1);
        due("P8 its 60 DAYS are over", 3, x.about(8));
        x.days(1);
        due("P8 from the first again", 2, x.about(8));
    }

    /** P8: 'from the next DAY on from their first one', on any DAY. */
    private static void fromTheirFirstOne() {
        DuneBench x = new DuneBench(4, 2);
        for (int day = 0; day < 8; day++) {
            Checks.blow(x, "up 2; calm 1; down 2;");
            due("P8 new winds on day " + x.about(0), 2, x.about(8));
            x.days(day + 1);
            due("P8 the same winds, " + (day + 1) + " days on", new int[] {2, 2, 4, 3, 3}[(day + 1) % 5], x.about(8));
        }
    }
}
