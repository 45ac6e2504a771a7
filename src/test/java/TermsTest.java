/** The document's examples and, sentence by sentence, the boundary cases that its terms name. */
public final class TermsTest {
    /** Copy 0 has the decades 199 to 202. */
    private static final String FOUR_DECADES = "edition(1999, 2) = 0; copy(0, 1, 0) = 0;";
    /** Owners 0 and 1 are always there. */
    private static final String TWO_OWNERS = "owner(1450, 2029, 0) = 0; owner(1450, 2029, 1) = 1;";
    /** Copies 0 and 1 of an octavo of 1700, an owner, a sale of 1700. */
    private static final String AUCTION = """
                edition(1700, 8) = 0; edition(1701, 8) = 1; copy(0, 100, 15) = 0; copy(0, 200, 0) = 1;
                owner(1450, 2029, 0) = 0; sale(0, 1700) = 0;
                """;

    private TermsTest() {
    }

    public static void main(String[] args) {
        examples();
        years();
        likeness();
        heirs();
        bindings();
        weights();
        testsOfMarks();
        scores();
        matching();
        matchingOfSeveralWays();
        confirming();
        thefts();
        whoIsThere();
        costsOfDecades();
        weightsOfSales();
        weightsOfThefts();
        movesToAndFromUnknown();
        movesOfSales();
        movesOfThefts();
        movesToHeirs();
        firstOfSeveralChains();
        stays();
        margins();
        rests();
        claimants();
        claims();
        libraries();
        shelfMarks();
        sums();
        Check.close();
    }

    private static void examples() {
        Run.of("the first example", """
                edition(1500, 2) = 0; copy(0, 200, 5) = 0; owner(1480, 1560, 0) = 0; owner(1550, 1700, 1) = 1;
                owner(1690, 2029, 2) = 2; heir(0, 1) = -1; mark(0, 0, 's', 1510, 20) = 0;
                mark(0, 1, 'i', 1600, 10) = 1; mark(0, 2, 'p', 1710, 7) = 2; cost(0) = 105; margin(0) = 0;
                stays(0) = 3; stay(0, 0) = 0; from(0, 1) = 157; stay(0, 2) = 2; gaps(0) = 0; holder(0, 1999) = 2;
                rests(0, 1) = false; rests(0, 2) = false; wash(2) = false; weight(2) = 3; rebind(0, 1720) = 1500;
                test(2) = 'b'; stays(0) = 3; withdraw(1, true) = false; holder(0, 1600) = 1; lost(0) = 1;
                knownShare() = 1.0; checksum() = 8509897628528759609; isSound() = true
                """);
        Run.of("the second example", """
                edition(1700, 8) = 0; edition(1600, 4) = 1;
                copy(0, 100, 3) = 0; copy(0, 100, 7) = 1; copy(1, 50, 0) = 2; owner(1650, 1800, 0) = 0;
                owner(1750, 2029, 3) = 1; sale(0, 1790) = 0; lot(0, 0, 8, 100, 7, 30, 1) = 0;
                lot(0, -1, 8, 0, 3, 90, 1) = 1; lot(0, 1, 4, 0, 128, 5, 1) = 2; score(0, 0) = 35; score(0, 1) = 45;
                score(1, 1) = 30; score(2, 2) = 15; match(0) = 1; match(1) = 0; match(2) = 2; confirm(0, 1) = -1;
                confirm(1, 1) throws UnsupportedOperationException; confirm(1, 0) = -1; dearest(0) = 1; stays(1) = 2;
                stay(1, 1) = 1; cost(1) = 62; shelf(1, 1800) = 2; shelved(1, 1800, 1) = 1; written(1, 1800, 1) = 2;
                sign(1, 1800, 1, 1) = 2; system(1, 'n') = 'f'; written(1, 1800, 1) = 3; sign(1, 1800, 1, 2) = 2;
                reopen(1) = 0; shelf(1, 1800) = 1; likeness(0, 1) = 7; meanPrice() = 41.666666666666664
                """);
        Run.of("the third example", """
                edition(1900, 12) = 0; copy(0, 10, 0) = 0; owner(1890, 1945, 0) = 0; owner(1930, 2029, 1) = 1;
                owner(1940, 2029, 2) = 2; heir(0, 1) = -1; mark(0, 0, 'i', 1905, 30) = 0;
                mark(0, 2, 's', 1995, 30) = 1; theft(0, 0, 1941) = 1;
                theft(0, 0, 1942) throws UnsupportedOperationException; claimant(0) = 1; claim(0) = 'k';
                limit(2, 100) = 30; claim(0) = 'r'; limit(2, 10) = 100; faith(2, false) = true; claim(0) = 's';
                holder(0, 1941) = 0; holder(0, 1955) = 2; stays(0) = 2; from(0, 1) = 195; margin(0) = 4;
                withdraw(1, true) = false; claim(0) = 'n'; checksum() = 4902127447159034841; isSound() = true
                """);
    }

    // ---- Years, editions, copies, owners ----

    private static void years() {
        Run.of("years go from 1450", """
                edition(1450, 2) = 0; copy(0, 1, 0) = 0; from(0, 0) = 145; gaps(0) = 58; cost(0) = 290
                """);
        Run.of("the year divided by 10, cut", """
                edition(1459, 2) = 0; copy(0, 1, 0) = 0; from(0, 0) = 145; gaps(0) = 58
                """);
        Run.of("the next decade", """
                edition(1460, 2) = 0; copy(0, 1, 0) = 0; from(0, 0) = 146; gaps(0) = 57; cost(0) = 285
                """);
        Run.of("the last edition", FOUR_DECADES + "from(0, 0) = 199; gaps(0) = 4; cost(0) = 20");
        Run.of("decades, first and last year", FOUR_DECADES + """
                owner(1999, 1999, 0) = 0; owner(2000, 2000, 0) = 1; owner(2019, 2019, 0) = 2;
                owner(2029, 2029, 0) = 3; holder(0, 1989) throws NoSuchElementException; holder(0, 1990) = 0;
                holder(0, 1999) = 0; holder(0, 2000) = 1; holder(0, 2009) = 1; holder(0, 2010) = 2;
                holder(0, 2019) = 2; holder(0, 2020) = 3; holder(0, 2029) = 3; from(0, 3) = 202; cost(0) = 20;
                stays(0) = 4; gaps(0) = 0
                """);
        Run.of("the last decade is 202", """
                edition(1450, 2) = 0; copy(0, 1, 0) = 0; owner(1450, 2019, 0) = 0; owner(2020, 2029, 0) = 1;
                from(0, 1) = 202; stay(0, 1) = 1; stays(0) = 2; cost(0) = 120
                """);
    }

    private static void likeness() {
        Run.of("how many wounds both have or both lack, of eight", """
                edition(1500, 2) = 0; copy(0, 1, 0) = 0; copy(0, 1, 255) = 1; copy(0, 1, 1) = 2; copy(0, 1, 128) = 3;
                copy(0, 1, 127) = 4; likeness(0, 0) = 8; likeness(1, 1) = 8; likeness(0, 1) = 0; likeness(1, 0) = 0;
                likeness(0, 2) = 7; likeness(0, 3) = 7; likeness(2, 3) = 6; likeness(1, 3) = 1; likeness(3, 4) = 0
                """);
    }

    private static void heirs() {
        Run.of("another owner whose last year is not ahead of the own one", """
                owner(1500, 1550, 0) = 0; owner(1550, 1550, 0) = 1; owner(1450, 1549, 0) = 2;
                owner(1500, 1551, 0) = 3; heir(0, 0) throws IllegalArgumentException;
                heir(0, 2) throws IllegalArgumentException; heir(0, 1) = -1; heir(0, 3) = 1; heir(0, 3) = 3;
                heir(2, 0) = -1; heir(3, 0) throws IllegalArgumentException
                """);
        Run.of("heirs can lead round", """
                owner(1500, 1550, 0) = 0; owner(1500, 1550, 0) = 1; owner(1500, 1550, 0) = 2; heir(0, 1) = -1;
                heir(1, 0) = -1; heir(1, 2) = 0; heir(2, 0) = -1; heir(0, 2) = 1
                """);
    }

    private static void bindings() {
        Run.of("the year of its binding, that of its edition at first", """
                edition(1500, 2) = 0; edition(1999, 2) = 1; copy(0, 1, 0) = 0; copy(1, 1, 0) = 1;
                rebind(0, 1500) = 1500; rebind(1, 1999) = 1999; rebind(0, 2029) = 1500; rebind(0, 1501) = 2029;
                rebind(1, 2000) = 1999; rebind(0, 1499) throws IllegalArgumentException;
                rebind(1, 1998) throws IllegalArgumentException; rebind(0, 2030) throws IllegalArgumentException;
                rebind(0, 1500) = 1501
                """);
    }

    // ---- Marks ----

    private static void weights() {
        Run run = Run.of("washed, its weight is half, cut", FOUR_DECADES + TWO_OWNERS);
        int[] washed = {0, 0, 1, 1, 2, 2, 3};
        for (int weight = 1; weight <= 6; weight++) {
            int mark = weight - 1;
            run.then("mark(0, 0, 's', 2000, " + weight + ") = " + mark + "; weight(" + mark + ") = " + weight
                    + "; wash(" + mark + ") = false; weight(" + mark + ") = " + washed[weight] + "; wash(" + mark
                    + ") = true; weight(" + mark + ") = " + washed[weight]);
        }
        run.then("""
                mark(0, 0, 's', 2000, 30) = 6; mark(0, 0, 's', 2000, 29) = 7; wash(6) = false; wash(7) = false;
                weight(6) = 15; weight(7) = 14
                """);
        Run.of("withdrawn, it has the weight 0 till it is told again", FOUR_DECADES + TWO_OWNERS + """
                mark(0, 0, 's', 2000, 9) = 0; withdraw(0, false) = false; weight(0) = 9; withdraw(0, true) = false;
                weight(0) = 0; withdraw(0, true) = true; weight(0) = 0; wash(0) = false; weight(0) = 0;
                withdraw(0, false) = true; weight(0) = 4; withdraw(0, true) = false; weight(0) = 0; lost(0) = 1
                """);
    }

    private static void testsOfMarks() {
        String stage = "edition(1600, 2) = 0; copy(0, 1, 0) = 0; rebind(0, 1650) = 1600;";
        Run.of("'e' ahead of its owner's first year", stage + """
                owner(1610, 1700, 0) = 0; mark(0, 0, 's', 1609, 1) = 0; test(0) = 'e'; mark(0, 0, 's', 1610, 1) = 1;
                test(1) = '-'; mark(0, 0, 's', 1450, 1) = 2; test(2) = 'e'
                """);
        Run.of("'l' behind the last one", stage + """
                owner(1610, 1700, 0) = 0; mark(0, 0, 's', 1701, 1) = 0; test(0) = 'l'; mark(0, 0, 's', 1700, 1) = 1;
                test(1) = '-'; mark(0, 0, 's', 2029, 1) = 2; test(2) = 'l'
                """);
        Run.of("'p' ahead of that of the edition", stage + """
                owner(1500, 1700, 0) = 0; mark(0, 0, 's', 1599, 1) = 0; test(0) = 'p'; mark(0, 0, 's', 1600, 1) = 1;
                test(1) = '-'; mark(0, 0, 'i', 1599, 1) = 2; test(2) = 'p'
                """);
        Run.of("'b' a plate, or arms, and ahead of the binding", stage + """
                owner(1500, 1700, 0) = 0; mark(0, 0, 'p', 1649, 1) = 0; test(0) = 'b'; mark(0, 0, 'a', 1649, 1) = 1;
                test(1) = 'b'; mark(0, 0, 's', 1649, 1) = 2; test(2) = '-'; mark(0, 0, 'i', 1649, 1) = 3;
                test(3) = '-'; mark(0, 0, 'p', 1650, 1) = 4; test(4) = '-'; mark(0, 0, 'a', 1650, 1) = 5;
                test(5) = '-'; rebind(0, 1651) = 1650; test(4) = 'b'; rebind(0, 1649) = 1651; test(0) = '-';
                test(1) = '-'
                """);
        Run.of("the first of these tells", stage + """
                owner(1650, 1700, 0) = 0; owner(1500, 1590, 0) = 1; owner(1500, 1640, 0) = 2;
                mark(0, 0, 's', 1599, 1) = 0; test(0) = 'e'; mark(0, 0, 'p', 1599, 1) = 1; test(1) = 'e';
                mark(0, 0, 'a', 1649, 1) = 2; test(2) = 'e'; mark(0, 1, 's', 1595, 1) = 3; test(3) = 'l';
                mark(0, 1, 'a', 1595, 1) = 4; test(4) = 'l'; mark(0, 2, 'p', 1645, 1) = 5; test(5) = 'l';
                mark(0, 1, 'p', 1590, 1) = 6; test(6) = 'p'; mark(0, 2, 'a', 1599, 1) = 7; test(7) = 'p';
                mark(0, 2, 'a', 1600, 1) = 8; test(8) = 'b'
                """);
    }

    // ---- Sales and lots ----

    private static void scores() {
        Run.of("0 if an edition is told and is another one", AUCTION + """
                lot(0, 0, 8, 100, 15, 1, 0) = 0; score(0, 0) = 50; lot(0, 1, 8, 100, 15, 1, 0) = 1; score(1, 0) = 0;
                lot(0, -1, 8, 100, 15, 1, 0) = 2; score(2, 0) = 50
                """);
        Run.of("or the copy's edition is later than the sale", AUCTION + """
                copy(1, 100, 15) = 2; lot(0, -1, 8, 100, 15, 1, 0) = 0; score(0, 0) = 50; score(0, 2) = 0;
                sale(0, 1701) = 1; lot(1, 1, 8, 100, 15, 1, 0) = 1; score(1, 2) = 50; sale(0, 1699) = 2;
                lot(2, 0, 8, 100, 15, 1, 0) = 2; score(2, 0) = 0; lot(0, 1, 8, 100, 15, 1, 0) = 3; score(3, 2) = 0
                """);
        Run.of("20 for the same format, 10 for the same leaves", AUCTION + """
                lot(0, -1, 8, 0, 0, 1, 0) = 0; score(0, 0) = 20; lot(0, -1, 2, 100, 0, 1, 0) = 1; score(1, 0) = 10;
                score(1, 1) = 0; lot(0, -1, 2, 99, 0, 1, 0) = 2; score(2, 0) = 0; lot(0, -1, 12, 0, 0, 1, 0) = 3;
                score(3, 0) = 0
                """);
        Run.of("5 for each wound told that the copy has, less 5 for each that it has not", AUCTION + """
                lot(0, -1, 2, 0, 1, 1, 0) = 0; score(0, 0) = 5; score(0, 1) = 0; lot(0, -1, 2, 0, 15, 1, 0) = 1;
                score(1, 0) = 20; lot(0, -1, 2, 0, 17, 1, 0) = 2; score(2, 0) = 0; lot(0, -1, 8, 0, 16, 1, 0) = 3;
                score(3, 0) = 15; lot(0, -1, 8, 0, 128, 1, 0) = 4; score(4, 0) = 15; score(4, 1) = 15
                """);
        Run.of("at least 0", AUCTION + """
                lot(0, -1, 8, 0, 224, 1, 0) = 0; score(0, 0) = 5; lot(0, -1, 8, 0, 240, 1, 0) = 1; score(1, 0) = 0;
                lot(0, -1, 8, 0, 248, 1, 0) = 2; score(2, 1) = 0; lot(0, -1, 2, 0, 240, 1, 0) = 3; score(3, 0) = 0;
                lot(0, -1, 2, 0, 255, 1, 0) = 4; score(4, 1) = 0; score(4, 0) = 0
                """);
        Run.of("the greatest score", AUCTION + """
                copy(0, 999, 255) = 2; lot(0, 0, 8, 999, 255, 1, 0) = 0; score(0, 2) = 70
                """);
    }

    private static void matching() {
        Run.of("with a score above 0, or to none", AUCTION + """
                lot(0, -1, 2, 0, 1, 1, 0) = 0; match(0) = 0; lot(0, -1, 2, 0, 16, 1, 0) = 1;
                match(1) throws NoSuchElementException; lot(0, -1, 2, 0, 17, 1, 0) = 2;
                match(2) throws NoSuchElementException
                """);
        Run.of("each to one of its own", AUCTION + """
                lot(0, 0, 8, 0, 0, 1, 0) = 0; match(0) = 0; lot(0, 0, 8, 0, 0, 1, 0) = 1; match(1) = 1;
                lot(0, 0, 8, 0, 0, 1, 0) = 2; match(2) throws NoSuchElementException; copy(0, 1, 0) = 2; match(2) = 2;
                match(0) = 0; match(1) = 1
                """);
        Run.of("so that the scores sum to most", AUCTION + """
                lot(0, 0, 8, 100, 0, 1, 0) = 0; match(0) = 0; lot(0, 0, 8, 100, 1, 1, 0) = 1; match(1) = 0;
                match(0) = 1; lot(0, 0, 8, 100, 3, 1, 0) = 2; match(2) = 0; match(0) = 1;
                match(1) throws NoSuchElementException
                """);
        Run.of("not each the most that it can have", AUCTION + """
                lot(0, 0, 8, 100, 0, 1, 0) = 0; lot(0, 0, 2, 100, 1, 1, 0) = 1; match(0) = 1; match(1) = 0;
                score(0, 0) = 30; score(0, 1) = 20; score(1, 0) = 15; score(1, 1) = 0
                """);
        Run.of("whatever is confirmed", AUCTION + """
                lot(0, 0, 8, 100, 0, 1, 0) = 0; lot(0, 0, 8, 0, 0, 1, 0) = 1; confirm(0, 1) = -1; match(0) = 0;
                match(1) = 1; confirm(1, 0) = -1; match(0) = 0; match(1) = 1; reopen(0) = 1; match(0) = 0
                """);
        Run.of("lots of a sale", AUCTION + """
                sale(0, 1700) = 1; lot(0, 0, 8, 0, 0, 1, 0) = 0; lot(1, 0, 8, 0, 0, 1, 0) = 1; match(0) = 0;
                match(1) = 0
                """);
    }

    private static void matchingOfSeveralWays() {
        Run.of("the first one by the copies of the lots", AUCTION + """
                copy(0, 300, 0) = 2; lot(0, 0, 8, 0, 0, 1, 0) = 0; lot(0, 0, 8, 0, 0, 1, 0) = 1; match(0) = 0;
                match(1) = 1; lot(0, 0, 8, 0, 1, 1, 0) = 2; match(2) = 0; match(0) = 1; match(1) = 2
                """);
        Run.of("the first lot's copy counts first, though another lot is left with none", AUCTION + """
                lot(0, 0, 8, 100, 0, 1, 0) = 0; lot(0, 0, 2, 100, 0, 1, 0) = 1; score(0, 0) = 30; score(0, 1) = 20;
                score(1, 0) = 10; score(1, 1) = 0; match(0) = 0; match(1) throws NoSuchElementException
                """);
        Run.of("the sum counts ahead of the first lot's copy", """
                edition(1700, 8) = 0; copy(0, 100, 0) = 0; copy(0, 100, 0) = 1; copy(0, 200, 0) = 2;
                owner(1450, 2029, 0) = 0; sale(0, 1700) = 0; lot(0, 0, 8, 200, 0, 1, 0) = 0;
                lot(0, 0, 8, 100, 0, 1, 0) = 1; lot(0, 0, 8, 100, 0, 1, 0) = 2; match(0) = 2; match(1) = 0;
                match(2) = 1; lot(0, 0, 8, 200, 0, 1, 0) = 3; match(0) = 2; match(3) throws NoSuchElementException
                """);
        Run.of("none being behind all copies", """
                edition(1700, 8) = 0; edition(1700, 2) = 1; owner(1450, 2029, 0) = 0; sale(0, 1700) = 0;
                lot(0, 1, 2, 0, 0, 1, 0) = 0; lot(0, 1, 2, 0, 0, 1, 0) = 1; lot(0, 0, 8, 0, 0, 1, 0) = 2
                """).count("copy(0, 1, 0)", 0, 9).then("""
                match(0) throws NoSuchElementException; copy(1, 1, 0) = 9; match(0) = 9;
                match(1) throws NoSuchElementException; match(2) = 0
                """);
        new Run("five lots and ten copies").then("edition(1700, 8) = 0; owner(1450, 2029, 0) = 0; sale(0, 1700) = 0")
                .count("copy(0, 7, 255)", 0, 10).count("lot(0, 0, 8, 7, 255, 1, 0)", 0, 5)
                .then("match(4) = 4; match(3) = 3; match(2) = 2; match(1) = 1; match(0) = 0");
        Run.of("five lots and one copy", """
                edition(1700, 8) = 0; copy(0, 9, 0) = 0; owner(1450, 2029, 0) = 0; sale(0, 1700) = 0
                """).count("lot(0, 0, 8, 0, 0, 1, 0)", 0, 4).then("""
                match(0) = 0; lot(0, 0, 8, 9, 0, 1, 0) = 4; match(4) = 0; match(0) throws NoSuchElementException;
                match(3) throws NoSuchElementException
                """);
    }

    private static void confirming() {
        Run.of("for any copy with a score above 0", AUCTION + """
                lot(0, -1, 2, 0, 1, 1, 0) = 0; lot(0, -1, 2, 0, 17, 1, 0) = 1; confirm(0, 0) = -1; reopen(0) = 0;
                confirm(0, 1) throws UnsupportedOperationException;
                confirm(1, 0) throws UnsupportedOperationException; reopen(0) throws UnsupportedOperationException
                """);
        Run.of("that no other lot of the sale is confirmed for", AUCTION + """
                sale(0, 1700) = 1; lot(0, 0, 8, 0, 0, 1, 0) = 0; lot(0, 0, 8, 0, 0, 1, 0) = 1;
                lot(1, 0, 8, 0, 0, 1, 0) = 2; confirm(0, 0) = -1; confirm(0, 0) = 0;
                confirm(1, 0) throws UnsupportedOperationException; confirm(2, 0) = -1; confirm(1, 1) = -1;
                confirm(1, 0) throws UnsupportedOperationException;
                confirm(0, 1) throws UnsupportedOperationException; reopen(0) = 0; confirm(1, 0) = 1; reopen(1) = 0;
                reopen(1) throws UnsupportedOperationException; confirm(0, 1) = -1; confirm(0, 0) = 1
                """);
        Run.of("the greatest price, of several the lowest", AUCTION + """
                sale(0, 1700) = 1; sale(0, 1700) = 2; lot(0, 0, 8, 0, 0, 1, 0) = 0; lot(1, 0, 8, 0, 0, 9999, 0) = 1;
                lot(2, 0, 8, 0, 0, 9999, 0) = 2; dearest(0) throws NoSuchElementException; confirm(0, 0) = -1;
                dearest(0) = 0; confirm(2, 0) = -1; dearest(0) = 2; confirm(1, 0) = -1; dearest(0) = 1; reopen(1) = 0;
                dearest(0) = 2; reopen(2) = 0; reopen(0) = 0; dearest(0) throws NoSuchElementException
                """);
    }

    private static void thefts() {
        Run.of("a copy can be stolen once", FOUR_DECADES + TWO_OWNERS + """
                copy(0, 1, 0) = 1; theft(0, 0, 1998) throws IllegalArgumentException; theft(0, 0, 1999) = 1;
                theft(0, 0, 1999) throws UnsupportedOperationException;
                theft(0, 1, 2029) throws UnsupportedOperationException;
                theft(1, 0, 2030) throws IllegalArgumentException; theft(1, 0, 2029) = 2
                """);
    }

    // ---- Chains ----

    private static void whoIsThere() {
        Run.of("one owner who is there in some year of it", FOUR_DECADES + """
                owner(1999, 1999, 0) = 0; holder(0, 1990) = 0; stays(0) = 2; cost(0) = 20; owner(2000, 2000, 0) = 1;
                cost(0) = 20; holder(0, 2009) throws NoSuchElementException; mark(0, 1, 's', 2000, 9) = 0;
                cost(0) = 19; holder(0, 1999) = 0; holder(0, 2000) = 1; holder(0, 2009) = 1;
                holder(0, 2010) throws NoSuchElementException
                """);
        Run.of("in the decades of its first and last year", FOUR_DECADES + """
                owner(2009, 2010, 0) = 0; mark(0, 0, 's', 2009, 9) = 0; mark(0, 0, 's', 2010, 9) = 1; cost(0) = 16;
                holder(0, 1999) throws NoSuchElementException; holder(0, 2000) = 0; holder(0, 2019) = 0;
                holder(0, 2020) throws NoSuchElementException
                """);
        Run.of("in each decade from that of its edition on", """
                edition(1985, 2) = 0; copy(0, 1, 0) = 0; owner(1980, 1980, 0) = 0;
                holder(0, 1979) throws NoSuchElementException; holder(0, 1980) = 0; from(0, 0) = 198
                """);
    }

    private static void costsOfDecades() {
        Run.of("5 if it is unknown", FOUR_DECADES + "cost(0) = 20");
        Run.of("2 with an owner for whom nothing tells in it", FOUR_DECADES + TWO_OWNERS + """
                cost(0) = 8; mark(0, 0, 's', 2000, 1) = 0; cost(0) = 6; mark(0, 0, 's', 2009, 1) = 1; cost(0) = 6;
                mark(0, 0, 's', 2010, 30) = 2; cost(0) = 4
                """);
        Run.of("for each of what tells, its weight, if the copy is not with that owner", FOUR_DECADES + TWO_OWNERS + """
                mark(0, 0, 's', 2000, 30) = 0; cost(0) = 6; mark(0, 1, 's', 2009, 2) = 1; cost(0) = 8;
                mark(0, 1, 's', 2000, 3) = 2; cost(0) = 11; holder(0, 2000) = 0
                """);
        Run.of("unknown beside what tells", """
                edition(1999, 2) = 0; copy(0, 1, 0) = 0; owner(2000, 2000, 0) = 0; mark(0, 0, 's', 2000, 3) = 0;
                cost(0) = 21; holder(0, 2000) = 0; withdraw(0, true) = false; cost(0) = 20;
                holder(0, 2000) throws NoSuchElementException
                """);
        Run.of("if its weight is above 0 and nothing tells against it", FOUR_DECADES + """
                owner(1450, 2029, 0) = 0; owner(1450, 2004, 0) = 1; mark(0, 0, 'a', 2005, 1) = 0; cost(0) = 6;
                wash(0) = false; cost(0) = 8; mark(0, 0, 'a', 2015, 2) = 1; cost(0) = 6; wash(1) = false; cost(0) = 6;
                rebind(0, 2016) = 1999; cost(0) = 8; rebind(0, 2015) = 2016; cost(0) = 6;
                mark(0, 1, 's', 2005, 30) = 2; cost(0) = 6; mark(0, 1, 's', 2004, 1) = 3; cost(0) = 7;
                mark(0, 0, 's', 1998, 30) = 4; cost(0) = 7; mark(0, 0, 's', 1999, 30) = 5; cost(0) = 5;
                withdraw(5, true) = false; cost(0) = 7
                """);
    }

    private static void weightsOfSales() {
        String lot = "lot(0, 0, 2, 0, 0, 1, 1) = 0; confirm(0, 0) = -1;";
        Run.of("15 for the seller in the decade ahead, if the edition was there then", FOUR_DECADES + TWO_OWNERS
                + "sale(0, 2000) = 0;" + lot + "cost(0) = 4; holder(0, 1999) = 0; holder(0, 2000) = 1");
        Run.of("the edition was not there in the decade ahead", FOUR_DECADES + TWO_OWNERS
                + "sale(0, 1999) = 0;" + lot + "cost(0) = 6; holder(0, 1999) = 1; margin(0) = 4");
        Run.of("the edition came in the last year of the decade ahead", "edition(1989, 2) = 0; copy(0, 1, 0) = 0;"
                + TWO_OWNERS + "sale(0, 1990) = 0;" + lot
                + "cost(0) = 6; holder(0, 1980) = 0; holder(0, 1990) = 1; from(0, 0) = 198");
        Run.of("a sale of the last decade", FOUR_DECADES + TWO_OWNERS + "sale(0, 2029) = 0;" + lot
                + "cost(0) = 4; holder(0, 2019) = 0; holder(0, 2020) = 1");
        Run.of("a sale of the first decade", "edition(1450, 2) = 0; copy(0, 1, 0) = 0;" + TWO_OWNERS
                + "sale(0, 1450) = 0;" + lot + "cost(0) = 114; holder(0, 1450) = 1; stays(0) = 1");
        Run.of("with the weight 15", FOUR_DECADES + TWO_OWNERS + "sale(0, 2000) = 0;" + lot + """
                mark(0, 1, 's', 1999, 14) = 0; mark(0, 0, 's', 2000, 14) = 1; cost(0) = 32; holder(0, 1999) = 0;
                holder(0, 2000) = 1; mark(0, 1, 's', 1999, 2) = 2; cost(0) = 33; holder(0, 1999) = 1;
                holder(0, 2000) = 1; reopen(0) = 0; cost(0) = 8
                """);
        Run.of("also if this one is not there then", FOUR_DECADES + """
                owner(1450, 1998, 0) = 0; owner(1990, 2029, 0) = 1; sale(0, 2010) = 0;
                """ + lot + "cost(0) = 21; holder(0, 2009) = 1");
        Run.of("the buyer is not there then", FOUR_DECADES + """
                owner(1450, 2029, 0) = 0; owner(1450, 1998, 0) = 1; sale(0, 2010) = 0;
                """ + lot + "cost(0) = 21; holder(0, 2009) = 0; holder(0, 2010) = 0");
        Run.of("who buys from oneself", FOUR_DECADES + """
                owner(1450, 2029, 0) = 0; owner(1450, 1998, 0) = 1; sale(0, 2010) = 0; lot(0, 0, 2, 0, 0, 1, 0) = 0;
                confirm(0, 0) = -1; cost(0) = 4; stays(0) = 1
                """);
    }

    private static void weightsOfThefts() {
        Run.of("20 in the decade of it, for the owner", FOUR_DECADES + TWO_OWNERS + """
                theft(0, 1, 2005) = 1; cost(0) = 6; holder(0, 2000) = 1; mark(0, 0, 's', 2009, 19) = 0;
                holder(0, 2000) = 1; cost(0) = 25; mark(0, 0, 's', 2000, 3) = 1; cost(0) = 26; holder(0, 2000) = 0
                """);
        Run.of("the first decade", FOUR_DECADES + TWO_OWNERS + """
                theft(0, 1, 1999) = 1; cost(0) = 6; holder(0, 1999) = 1; holder(0, 2000) = 0
                """);
        Run.of("the last decade", FOUR_DECADES + TWO_OWNERS + """
                theft(0, 1, 2029) = 1; cost(0) = 6; stays(0) = 1; holder(0, 2029) = 1
                """);
        Run.of("also if the owner is not there then", FOUR_DECADES + """
                owner(2000, 2029, 0) = 0; owner(1999, 2029, 0) = 1; theft(0, 0, 1999) = 1; cost(0) = 28; stays(0) = 1;
                stay(0, 0) = 1
                """);
    }

    private static void movesToAndFromUnknown() {
        Run.of("3 if it comes to be unknown", FOUR_DECADES + """
                owner(1999, 1999, 0) = 0; mark(0, 0, 's', 1999, 1) = 0; cost(0) = 18; stays(0) = 2; margin(0) = 3
                """);
        Run.of("or known", FOUR_DECADES + """
                owner(2020, 2020, 0) = 0; cost(0) = 20; stays(0) = 2; mark(0, 0, 's', 2020, 1) = 0; cost(0) = 18;
                stays(0) = 2; from(0, 1) = 202; margin(0) = 3
                """);
    }

    private static void movesOfSales() {
        String stage = FOUR_DECADES + TWO_OWNERS + """
                sale(0, 2010) = 0; lot(0, 0, 2, 0, 0, 1, 1) = 0; confirm(0, 0) = -1;
                """;
        Run.of("0 from the seller to the buyer, as the decade of the sale begins", stage + """
                cost(0) = 4; from(0, 1) = 201
                """);
        Run.of("not a decade ahead", stage + """
                mark(0, 1, 's', 2005, 30) = 0; cost(0) = 19; holder(0, 1999) = 1; stays(0) = 1
                """);
        Run.of("not a decade behind", stage + """
                mark(0, 0, 's', 2015, 30) = 0; mark(0, 1, 's', 2025, 3) = 1; cost(0) = 21; margin(0) = 1;
                from(0, 1) = 202
                """);
        Run.of("not from the buyer to the seller", stage + """
                mark(0, 1, 's', 2005, 30) = 0; mark(0, 0, 's', 2015, 30) = 1; cost(0) = 38; stay(0, 0) = 1;
                stay(0, 1) = 0; from(0, 1) = 201
                """);
        Run.of("not for another copy", stage + """
                copy(0, 1, 0) = 1; mark(1, 0, 's', 2005, 30) = 0; mark(1, 1, 's', 2015, 30) = 1; cost(1) = 8;
                cost(0) = 4
                """);
        Run.of("nor while the match is open", stage + """
                mark(0, 0, 's', 2005, 30) = 0; mark(0, 1, 's', 2015, 30) = 1; cost(0) = 4; reopen(0) = 0; cost(0) = 8
                """);
        Run.of("the least of what holds: buyer and heir", stage + """
                heir(0, 1) = -1; cost(0) = 4; reopen(0) = 0; mark(0, 0, 's', 2005, 30) = 0;
                mark(0, 1, 's', 2015, 30) = 1; cost(0) = 5
                """);
    }

    private static void movesOfThefts() {
        String stage = FOUR_DECADES + TWO_OWNERS;
        Run.of("0 from who it was stolen, to anyone", stage + """
                theft(0, 0, 2000) = 1; mark(0, 1, 's', 2010, 5) = 0; cost(0) = 4; from(0, 1) = 201
                """);
        Run.of("in the decade behind that of the theft, not two behind", stage + """
                theft(0, 0, 2009) = 1; mark(0, 1, 's', 2020, 5) = 0; cost(0) = 4; from(0, 1) = 201
                """);
        Run.of("not in the decade of the theft", stage + """
                theft(0, 0, 2000) = 1; mark(0, 1, 's', 2000, 30) = 0; cost(0) = 26; stays(0) = 1; stay(0, 0) = 1
                """);
        Run.of("or to be unknown", FOUR_DECADES + """
                owner(1450, 2009, 0) = 0; theft(0, 0, 2009) = 1; cost(0) = 12; gaps(0) = 2
                """);
        Run.of("but from nobody else", stage + """
                theft(0, 0, 2000) = 1; mark(0, 1, 's', 2009, 30) = 0; mark(0, 0, 's', 2010, 30) = 1; cost(0) = 28;
                holder(0, 2000) = 1; holder(0, 2010) = 0
                """);
        Run.of("nor from unknown", FOUR_DECADES + """
                owner(1450, 1450, 0) = 0; owner(2010, 2029, 0) = 1; theft(0, 0, 2000) = 1; cost(0) = 37; stays(0) = 2;
                from(0, 1) = 201
                """);
        Run.of("a theft of the last decade", stage + """
                theft(0, 0, 2020) = 1; mark(0, 1, 's', 2020, 19) = 0; cost(0) = 25; stays(0) = 1
                """);
        Run.of("the least of what holds: stolen and heir", stage + """
                heir(0, 1) = -1; theft(0, 0, 2000) = 1; mark(0, 1, 's', 2010, 30) = 0; cost(0) = 4
                """);
    }

    private static void movesToHeirs() {
        String stage = FOUR_DECADES + "owner(1450, 1999, 0) = 0; owner(2000, 2029, 0) = 1; owner(2000, 2029, 0) = 2;";
        Run.of("4 otherwise", stage + "cost(0) = 12; stay(0, 1) = 1");
        Run.of("1 to the heir", stage + "heir(0, 2) = -1; cost(0) = 9; stay(0, 1) = 2; margin(0) = 3");
        Run.of("not to the heir's heir", stage + """
                heir(0, 1) = -1; heir(1, 2) = -1; mark(0, 2, 's', 2000, 9) = 0; cost(0) = 10; stay(0, 1) = 2;
                stays(0) = 2
                """);
        Run.of("not from the heir", FOUR_DECADES + """
                owner(2000, 2029, 0) = 0; owner(1450, 2029, 0) = 1; heir(0, 1) = -1; mark(0, 0, 's', 2000, 20) = 0;
                cost(0) = 10; stay(0, 0) = 1; stay(0, 1) = 0; heir(1, 0) = -1; cost(0) = 7
                """);
        Run.of("at any decade", FOUR_DECADES + TWO_OWNERS + """
                heir(0, 1) = -1; mark(0, 1, 's', 2029, 2) = 0; cost(0) = 6; mark(0, 0, 's', 2019, 9) = 1; cost(0) = 5;
                from(0, 1) = 202
                """);
    }

    private static void firstOfSeveralChains() {
        Run.of("the first one by owners", FOUR_DECADES + TWO_OWNERS + "stays(0) = 1; stay(0, 0) = 0; margin(0) = 0");
        Run.of("unknown being behind all", FOUR_DECADES + """
                owner(1999, 1999, 0) = 0; cost(0) = 20; margin(0) = 0; holder(0, 1999) = 0
                """);
        Run.of("unknown being behind owner 11", FOUR_DECADES).count("owner(1450, 1450, 0)", 0, 11)
                .then("margin(0) = -1; owner(1999, 1999, 0) = 11; cost(0) = 20; margin(0) = 0; holder(0, 1999) = 11");
        Run.of("decade by decade, the first decade counts most", FOUR_DECADES + TWO_OWNERS + """
                mark(0, 1, 's', 1999, 2) = 0; cost(0) = 6; stay(0, 0) = 1; stays(0) = 1; margin(0) = 4;
                mark(0, 0, 's', 2029, 4) = 1; cost(0) = 8; margin(0) = 0; stay(0, 0) = 0; stays(0) = 1;
                mark(0, 1, 's', 1999, 1) = 2; cost(0) = 8; stay(0, 0) = 1; from(0, 1) = 200; stays(0) = 2;
                margin(0) = 0
                """);
        Run.of("a move as early as may be to the lower owner", FOUR_DECADES + TWO_OWNERS + """
                mark(0, 1, 's', 1999, 30) = 0; mark(0, 0, 's', 2029, 30) = 1; from(0, 1) = 200; margin(0) = 0;
                cost(0) = 8
                """);
        Run.of("a move as late as may be from the lower owner", FOUR_DECADES + TWO_OWNERS + """
                mark(0, 0, 's', 1999, 30) = 0; mark(0, 1, 's', 2029, 30) = 1; from(0, 1) = 202; margin(0) = 0;
                cost(0) = 8
                """);
    }

    private static void stays() {
        Run.of("as many decades as there are without another one between", FOUR_DECADES + TWO_OWNERS + """
                stays(0) = 1; mark(0, 1, 's', 2000, 30) = 0; mark(0, 0, 's', 1999, 30) = 1;
                mark(0, 0, 's', 2010, 30) = 2; stays(0) = 3; stay(0, 0) = 0; from(0, 0) = 199; stay(0, 1) = 1;
                from(0, 1) = 200; stay(0, 2) = 0; from(0, 2) = 201; stay(0, 3) throws NoSuchElementException;
                from(0, 3) throws NoSuchElementException
                """);
        Run.of("unknown is a stay too", FOUR_DECADES + """
                owner(2000, 2009, 0) = 0; mark(0, 0, 's', 2005, 30) = 0; stays(0) = 3; gaps(0) = 3; stay(0, 0) = -1;
                stay(0, 1) = 0; stay(0, 2) = -1; from(0, 2) = 201; knownShare() = 0.0
                """);
    }

    private static void margins() {
        Run.of("-1 if there is no other one", FOUR_DECADES + """
                margin(0) = -1; owner(1450, 1989, 0) = 0; margin(0) = -1; owner(2029, 2029, 0) = 1; margin(0) = 0
                """);
        Run.of("0 if another one costs as much", FOUR_DECADES + TWO_OWNERS + "margin(0) = 0");
        Run.of("another chain is unlike in some decade", FOUR_DECADES + """
                owner(1450, 2029, 0) = 0; margin(0) = 6; mark(0, 0, 's', 1999, 9) = 0; margin(0) = 6;
                mark(0, 0, 's', 2020, 9) = 1; margin(0) = 9; owner(2010, 2019, 0) = 1; margin(0) = 8;
                mark(0, 1, 's', 2010, 7) = 2; margin(0) = 1; withdraw(2, true) = false;
                heir(0, 1) throws IllegalArgumentException; heir(1, 0) = -1; margin(0) = 5
                """);
    }

    private static void rests() {
        Run.of("withdrawn, the chain would be another one", FOUR_DECADES + TWO_OWNERS + """
                copy(0, 1, 0) = 1; mark(0, 1, 's', 2005, 1) = 0; mark(0, 0, 's', 2005, 30) = 1;
                mark(1, 1, 's', 2005, 1) = 2; rests(0, 0) = false; rests(0, 1) = true; rests(1, 2) = true;
                rests(1, 0) = false; rests(0, 2) = false; holder(0, 2005) = 0; weight(1) = 30;
                withdraw(1, true) = false; holder(0, 2005) = 1; rests(0, 1) = false; rests(0, 0) = true;
                wash(0) = false; rests(0, 0) = false; withdraw(1, false) = true; rests(0, 1) = false; isSound() = true
                """);
        Run.of("it costs another sum, but is the same", FOUR_DECADES + """
                owner(1450, 2029, 0) = 0; mark(0, 0, 's', 2005, 30) = 0; rests(0, 0) = false; cost(0) = 6;
                withdraw(0, true) = false; cost(0) = 8
                """);
        Run.of("of two that say the same neither is rested on", FOUR_DECADES + TWO_OWNERS + """
                mark(0, 1, 's', 2005, 3) = 0; mark(0, 1, 's', 2015, 3) = 1; rests(0, 0) = false; rests(0, 1) = false;
                withdraw(0, true) = false; rests(0, 1) = true
                """);
    }

    // ---- Claims ----

    private static void claimants() {
        Run.of("the one from whom, there in 2029 as the last year", FOUR_DECADES + TWO_OWNERS
                + "heir(0, 1) = -1; theft(0, 0, 2000) = 1; claimant(0) = 0");
        Run.of("2028 is not the last year", FOUR_DECADES + """
                owner(1450, 2028, 0) = 0; owner(1450, 2029, 0) = 1; theft(0, 0, 2000) = 1;
                claimant(0) throws NoSuchElementException; claim(0) = 'n'; heir(0, 1) = -1; claimant(0) = 1
                """);
        Run.of("or the heir, that one's heir, and so on", FOUR_DECADES + """
                owner(1450, 2000, 0) = 0; owner(1450, 2000, 0) = 1; owner(1450, 2028, 0) = 2;
                owner(1450, 2029, 0) = 3; owner(1450, 2029, 0) = 4; theft(0, 0, 2000) = 1; heir(0, 1) = -1;
                claimant(0) throws NoSuchElementException; heir(1, 2) = -1; claimant(0) throws NoSuchElementException;
                heir(2, 3) = -1; claimant(0) = 3; heir(3, 4) = -1; claimant(0) = 3; heir(4, 3) = -1; claimant(0) = 3
                """);
        Run.of("none if they lead round ahead of that", FOUR_DECADES + """
                owner(1450, 2000, 0) = 0; owner(1450, 2000, 0) = 1; owner(1450, 2000, 0) = 2;
                owner(1450, 2029, 0) = 3; theft(0, 0, 2000) = 1; heir(0, 1) = -1; heir(1, 0) = -1;
                claimant(0) throws NoSuchElementException; claim(0) = 'n'; heir(1, 2) = 0; heir(2, 1) = -1;
                claimant(0) throws NoSuchElementException; claim(0) = 'n'; heir(2, 0) = 1;
                claimant(0) throws NoSuchElementException; heir(2, 3) = 0; claimant(0) = 3
                """);
        Run last = Run.of("twelve owners lead to the last one", FOUR_DECADES).count("owner(1450, 2028, 0)", 0, 11)
                .then("owner(1450, 2029, 0) = 11; theft(0, 0, 2000) = 1");
        for (int owner = 0; owner < 11; owner++) {
            last.then("claimant(0) throws NoSuchElementException; heir(" + owner + ", " + (owner + 1) + ") = -1");
        }
        last.then("""
                claimant(0) = 11; heir(10, 0) = 11; claimant(0) throws NoSuchElementException; heir(10, 11) = 0;
                claimant(0) = 11
                """);
        Run.of("not stolen", FOUR_DECADES + TWO_OWNERS + """
                claimant(0) throws UnsupportedOperationException; claim(0) throws UnsupportedOperationException;
                theft(0, 0, 1999) = 1; claimant(0) = 0; claim(0) = 'n'
                """);
    }

    private static void claims() {
        String stolen = """
                edition(1800, 2) = 0; copy(0, 1, 0) = 0; owner(1800, 1829, 9) = 0; owner(1800, 2029, 8) = 1;
                owner(1800, 2029, 7) = 2; heir(0, 1) = -1;
                """;
        Run.of("no more than the limit ahead of 2020: 200", stolen + """
                theft(0, 0, 1815) = 1; mark(0, 2, 's', 1825, 30) = 0; from(0, 1) = 182; claimant(0) = 1;
                claim(0) = 'k'; limit(7, 200) = 30; claim(0) = 'r'; limit(7, 199) = 200; claim(0) = 'k';
                faith(2, false) = true; claim(0) = 's'; limit(7, 200) = 199; claim(0) = 'r'; limit(7, 0) = 200;
                limit(8, 200) = 30; limit(9, 200) = 30; claim(0) = 's'; faith(2, true) = false;
                faith(1, false) = true; faith(0, false) = true; claim(0) = 'k'
                """);
        Run.of("more than any limit ahead of 2020: 210", stolen + """
                theft(0, 0, 1805) = 1; mark(0, 2, 's', 1815, 30) = 0; from(0, 1) = 181; limit(7, 200) = 30;
                claim(0) = 'k'; faith(2, false) = true; claim(0) = 's'
                """);
        Run.of("30 at first", stolen + """
                theft(0, 1, 1985) = 1; mark(0, 1, 's', 1979, 30) = 0; mark(0, 2, 's', 1990, 30) = 1; claimant(0) = 1;
                from(0, 1) = 199; claim(0) = 'r'; limit(7, 29) = 30; claim(0) = 'k'; limit(7, 30) = 29; claim(0) = 'r'
                """);
        Run.of("40 ahead of 2020", stolen + """
                theft(0, 1, 1975) = 1; mark(0, 1, 's', 1969, 30) = 0; mark(0, 2, 's', 1989, 30) = 1; from(0, 1) = 198;
                claim(0) = 'k'; limit(7, 39) = 30; claim(0) = 'k'; limit(7, 40) = 39; claim(0) = 'r'
                """);
        Run.of("the stay of now began now", stolen + """
                theft(0, 1, 2019) = 1; mark(0, 2, 's', 2029, 30) = 0; from(0, 1) = 202; limit(7, 0) = 30;
                claim(0) = 'r'
                """);
        Run.of("the stay of now, not an earlier one of the same holder", stolen + """
                theft(0, 1, 1985) = 1; mark(0, 2, 's', 1905, 30) = 0; mark(0, 1, 's', 1975, 30) = 1;
                mark(0, 2, 's', 1999, 30) = 2; stay(0, 0) = 2; stay(0, 2) = 2; from(0, 2) = 199; claim(0) = 'r';
                limit(7, 29) = 30; claim(0) = 'k'
                """);
        Run.of("the holder is owner 0", FOUR_DECADES + TWO_OWNERS + """
                theft(0, 1, 2000) = 1; mark(0, 0, 's', 2010, 30) = 0; from(0, 1) = 201; holder(0, 2029) = 0;
                claim(0) = 'r'; limit(0, 9) = 30; claim(0) = 'k'; faith(0, false) = true; claim(0) = 's';
                limit(0, 10) = 9; claim(0) = 'r'
                """);
        Run.of("'n' if it is with the claimant", stolen + """
                theft(0, 0, 1825) = 1; mark(0, 1, 's', 1995, 30) = 0; claimant(0) = 1; claim(0) = 'n';
                faith(1, false) = true; limit(8, 200) = 30; claim(0) = 'n'
                """);
        Run.of("'n' if the copy is unknown now", """
                edition(1800, 2) = 0; copy(0, 1, 0) = 0; owner(1800, 2019, 0) = 0; theft(0, 0, 1805) = 1;
                holder(0, 2029) throws NoSuchElementException; claim(0) = 'n'
                """);
        Run.of("'n' without a claimant", stolen + """
                owner(1800, 1829, 0) = 3; theft(0, 3, 1825) = 1; mark(0, 2, 's', 1995, 30) = 0; holder(0, 2029) = 2;
                claim(0) = 'n'; heir(3, 1) = -1; claim(0) = 'k'
                """);
    }

    // ---- Shelves ----

    private static void libraries() {
        Run.of("the copies whose chains have them with that owner in its decade", """
                edition(1985, 2) = 0; copy(0, 1, 0) = 0; owner(1450, 1999, 0) = 0; owner(2000, 2029, 0) = 1;
                shelf(0, 1979) = 0; shelf(0, 1980) = 1; shelf(0, 1999) = 1; shelf(0, 2000) = 0; shelf(1, 1999) = 0;
                shelf(1, 2000) = 1; shelf(1, 2029) = 1; shelved(0, 1980, 0) = 0;
                shelved(0, 1979, 0) throws NoSuchElementException; written(0, 1979, 0) throws NoSuchElementException;
                written(0, 1980, 0) = 2; sign(1, 1999, 0, 0) throws NoSuchElementException; sign(1, 2000, 0, 0) = 'A'
                """);
        Run.of("by formats, 2 first, then by numbers", """
                edition(1999, 12) = 0; edition(1999, 8) = 1; edition(1999, 4) = 2; edition(1999, 2) = 3;
                copy(0, 1, 0) = 0; copy(1, 1, 0) = 1; copy(2, 1, 0) = 2; copy(3, 1, 0) = 3; copy(3, 1, 0) = 4;
                copy(2, 1, 0) = 5; copy(1, 1, 0) = 6; copy(0, 1, 0) = 7; owner(1999, 2029, 0) = 0; shelf(0, 2029) = 8;
                shelved(0, 2029, 0) = 3; shelved(0, 2029, 1) = 4; shelved(0, 2029, 2) = 2; shelved(0, 2029, 3) = 5;
                shelved(0, 2029, 4) = 1; shelved(0, 2029, 5) = 6; shelved(0, 2029, 6) = 0; shelved(0, 2029, 7) = 7;
                shelved(0, 2029, 8) throws NoSuchElementException
                """);
    }

    private static void shelfMarks() {
        Run run = Run.of("the letter A, B, C or D and the place among those of that format", """
                edition(1999, 2) = 0; edition(1999, 4) = 1; edition(1999, 8) = 2; edition(1999, 12) = 3;
                copy(3, 1, 0) = 0; copy(3, 1, 0) = 1; copy(2, 1, 0) = 2; copy(2, 1, 0) = 3; copy(1, 1, 0) = 4;
                copy(1, 1, 0) = 5; copy(0, 1, 0) = 6; copy(0, 1, 0) = 7; owner(1999, 2029, 0) = 0;
                owner(1999, 2029, 0) = 1
                """);
        for (int copy = 0; copy < 8; copy++) {
            run.then("written(0, 2029, " + copy + ") = 2; sign(0, 2029, " + copy + ", 0) = " + "DDCCBBAA".charAt(copy)
                    + "; sign(0, 2029, " + copy + ", 1) = " + (1 + copy % 2) + "; sign(0, 2029, " + copy
                    + ", 2) throws NoSuchElementException");
        }
        run.then("""
                sign(0, 2029, 0, -1) throws NoSuchElementException; system(1, 'n') = 'f'; written(0, 2029, 0) = 2;
                system(0, 'n') = 'f'
                """);
        int[] places = {7, 8, 5, 6, 3, 4, 1, 2};
        for (int copy = 0; copy < 8; copy++) {
            run.then("written(0, 2029, " + copy + ") = 3; sign(0, 2029, " + copy + ", 0) = 0; sign(0, 2029, " + copy
                    + ", 1) = 0; sign(0, 2029, " + copy + ", 2) = " + places[copy]);
        }
        run.then("""
                sign(0, 2029, 0, 3) throws NoSuchElementException; copy(0, 1, 0) = 8; copy(3, 1, 0) = 9;
                sign(0, 2029, 1, 2) = 9; sign(0, 2029, 9, 0) = 0; sign(0, 2029, 9, 1) = 1; sign(0, 2029, 9, 2) = 0;
                system(0, 'f') = 'n'; sign(0, 2029, 9, 1) = 3; mark(0, 1, 's', 2029, 30) = 0; sign(0, 2029, 9, 1) = 2
                """);
    }

    // ---- Sums ----

    private static void sums() {
        Run.of("7 at first, then 31 times itself plus the owner, or -1", """
                checksum() = 7; edition(1999, 2) = 0; checksum() = 7; copy(0, 1, 0) = 0; checksum() = 6433863;
                owner(1450, 2029, 0) = 0; checksum() = 6464647; mark(0, 0, 's', 2029, 1) = 0;
                owner(2020, 2029, 0) = 1; checksum() = 6464647; mark(0, 1, 's', 2029, 30) = 1; checksum() = 6464648
                """);
        Run.of("the number of the copies known in all decades, divided by that of all", FOUR_DECADES + """
                edition(1989, 2) = 1; knownShare() = 0.0; owner(1999, 2029, 0) = 0; knownShare() = 1.0;
                copy(1, 1, 0) = 1; knownShare() = 0.5; copy(1, 1, 0) = 2; knownShare() = 0.33333334;
                copy(0, 1, 0) = 3; knownShare() = 0.5; copy(0, 1, 0) = 4; knownShare() = 0.6;
                owner(1980, 1980, 0) = 1; knownShare() = 1.0
                """);
        Run.of("the sum of the prices, divided by their number", AUCTION + """
                meanPrice() throws ArithmeticException; lot(0, 0, 8, 0, 0, 1, 0) = 0; meanPrice() = 1.0;
                lot(0, 0, 8, 0, 0, 9999, 0) = 1; meanPrice() = 5000.0; lot(0, 0, 8, 0, 0, 1, 0) = 2;
                meanPrice() = 3333.6666666666665
                """);
    }
}
