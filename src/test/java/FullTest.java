/** Each kind full: the last one is taken and serves, one more is refused, and nothing else is. */
public final class FullTest {
    private FullTest() {
    }

    public static void main(String[] args) {
        editions();
        copies();
        owners();
        marks();
        sales();
        lotsOfOneSale();
        lotsInAll();
        eachKindAtOnce();
        calls();
        Check.close();
    }

    private static void editions() {
        new Run("at most 8 editions").count("edition(1999, 12)", 0, 7).then("""
                copy(7, 1, 0) throws IndexOutOfBoundsException; edition(1450, 4) = 7;
                edition(1500, 2) throws IllegalStateException; edition(1500, 2) throws IllegalStateException;
                edition(1449, 2) throws IllegalArgumentException; edition(1500, 3) throws IllegalArgumentException;
                copy(8, 1, 0) throws IndexOutOfBoundsException; copy(7, 1, 0) = 0; from(0, 0) = 145;
                owner(1450, 2029, 0) = 0; sign(0, 1450, 0, 0) = 'B'; sale(0, 1450) = 0;
                lot(0, 8, 2, 0, 0, 1, 0) throws IndexOutOfBoundsException; lot(0, 7, 4, 0, 0, 1, 0) = 0;
                score(0, 0) = 20;
                """);
    }

    private static void copies() {
        new Run("at most 10 copies").then("""
                edition(1999, 2) = 0; owner(1450, 2029, 0) = 0; sale(0, 2000) = 0; lot(0, -1, 2, 999, 255, 1, 0) = 0
                """).count("copy(0, 1, 0)", 0, 9).then("""
                cost(9) throws IndexOutOfBoundsException; shelf(0, 2029) = 9; copy(0, 999, 255) = 9;
                copy(0, 1, 0) throws IllegalStateException; copy(0, 1, 0) throws IllegalStateException;
                copy(0, 0, 0) throws IllegalArgumentException; copy(1, 1, 0) throws IndexOutOfBoundsException;
                cost(9) = 8; cost(10) throws IndexOutOfBoundsException; likeness(9, 0) = 0; score(0, 9) = 70;
                match(0) = 9; confirm(0, 9) = -1; dearest(9) = 0; mark(9, 0, 's', 2000, 1) = 0; rests(9, 0) = false;
                theft(9, 0, 2000) = 1; claimant(9) = 0; claim(9) = 'n'; shelf(0, 2029) = 10; shelved(0, 2029, 9) = 9;
                shelved(0, 2029, 10) throws NoSuchElementException; written(0, 2029, 9) = 3;
                sign(0, 2029, 9, 1) = '1'; sign(0, 2029, 9, 2) = '0'; written(0, 2029, 8) = 2;
                sign(0, 2029, 8, 1) = '9'; knownShare() = 1.0; isSound() = true;
                """);
        Run all = new Run("all 10 copies can be stolen").then("edition(1999, 2) = 0; owner(1999, 1999, 0) = 0")
                .count("copy(0, 1, 0)", 0, 10);
        for (int copy = 0; copy < 10; copy++) {
            all.then("theft(" + copy + ", 0, 1999) = " + (copy + 1));
        }
        all.then("theft(9, 0, 1999) throws UnsupportedOperationException");
    }

    private static void owners() {
        new Run("at most 12 owners").then("""
                edition(1999, 2) = 0; copy(0, 1, 0) = 0
                """).count("owner(1450, 1989, 0)", 0, 11)
                .then("""
                faith(11, true) throws IndexOutOfBoundsException; margin(0) = -1; owner(1999, 2029, 9) = 11;
                owner(1500, 1500, 0) throws IllegalStateException; owner(1500, 1500, 0) throws IllegalStateException;
                owner(1500, 1499, 0) throws IllegalArgumentException;
                owner(1500, 1500, 10) throws IllegalArgumentException;
                faith(12, true) throws IndexOutOfBoundsException; heir(12, 11) throws IndexOutOfBoundsException;
                heir(0, 12) throws IndexOutOfBoundsException; heir(10, 11) = -1; system(11, 'n') = 'f';
                mark(0, 11, 'a', 1999, 30) = 0; holder(0, 2029) = 11; stay(0, 0) = 11; cost(0) = 6; margin(0) = 6;
                theft(0, 10, 1999) = 1; claimant(0) = 11; claim(0) = 'n'; shelf(11, 2029) = 1;
                written(11, 2029, 0) = 3; rests(0, 0) = false; sale(11, 2029) = 0;
                lot(0, 0, 2, 0, 0, 1, 12) throws IndexOutOfBoundsException; lot(0, 0, 2, 0, 0, 1, 11) = 0;
                faith(11, false) = true;
                """);
        new Run("12 owners who are all there").then("edition(1999, 2) = 0; copy(0, 1, 0) = 0")
                .count("owner(1450, 2029, 0)", 0, 12).then("""
                cost(0) = 8; margin(0) = 0; holder(0, 2029) = 0; mark(0, 11, 's', 2025, 30) = 0; holder(0, 2029) = 11
                """);
    }

    private static void marks() {
        new Run("at most 40 marks").then("""
                edition(1999, 2) = 0; copy(0, 1, 0) = 0; owner(1450, 2029, 0) = 0; owner(2020, 2029, 0) = 1
                """).count("mark(0, 0, 's', 2029, 30)", 0, 38).then("""
                mark(0, 1, 'p', 2029, 30) = 38; wash(39) throws IndexOutOfBoundsException; cost(0) = 36;
                mark(0, 1, 'a', 2020, 30) = 39; mark(0, 0, 's', 2000, 1) throws IllegalStateException;
                mark(0, 0, 's', 2000, 1) throws IllegalStateException;
                mark(0, 0, 's', 2000, 31) throws IllegalArgumentException;
                mark(1, 0, 's', 2000, 1) throws IndexOutOfBoundsException;
                weight(40) throws IndexOutOfBoundsException; cost(0) = 66; margin(0) = 6; weight(39) = 30;
                test(39) = '-'; wash(39) = false; weight(39) = 15; lost(0) = 1; cost(0) = 51; rests(0, 39) = false;
                withdraw(39, true) = false; cost(0) = 36; mark(0, 0, 's', 2000, 1) throws IllegalStateException;
                isSound() = true;
                """);
        Run washed = new Run("all 40 marks can be washed").then("""
                edition(1999, 2) = 0; copy(0, 1, 0) = 0; owner(1450, 2029, 0) = 0
                """).count("mark(0, 0, 'i', 2000, 1)", 0, 40);
        for (int mark = 0; mark < 40; mark++) {
            washed.then("wash(" + mark + ") = false; lost(0) = " + (mark + 1));
        }
    }

    private static void sales() {
        new Run("at most 6 sales").then("""
                edition(1450, 2) = 0; copy(0, 1, 0) = 0; owner(1450, 2029, 0) = 0; owner(1450, 2029, 0) = 1
                """).count("sale(0, 1450)", 0, 5).then("""
                lot(5, 0, 2, 0, 0, 1, 1) throws IndexOutOfBoundsException; sale(1, 2029) = 5;
                sale(0, 1500) throws IllegalStateException; sale(0, 1500) throws IllegalStateException;
                sale(0, 1449) throws IllegalArgumentException; sale(2, 1500) throws IndexOutOfBoundsException;
                lot(6, 0, 2, 0, 0, 1, 1) throws IndexOutOfBoundsException; lot(5, 0, 2, 0, 0, 1, 0) = 0;
                match(0) = 0; confirm(0, 0) = -1; holder(0, 2019) = 1; holder(0, 2020) = 0;
                """);
    }

    private static void lotsOfOneSale() {
        new Run("at most 5 lots of a sale").then("""
                edition(1999, 2) = 0; owner(1450, 2029, 0) = 0; sale(0, 2000) = 0; sale(0, 2000) = 1
                """).count("copy(0, 1, 0)", 0, 10).count("lot(0, 0, 2, 0, 0, 1, 0)", 0, 4).then("""
                lot(0, 0, 2, 1, 0, 1, 0) = 4; lot(0, 0, 2, 0, 0, 1, 0) throws IllegalStateException;
                lot(0, 0, 2, 0, 0, 1, 0) throws IllegalStateException;
                lot(0, 0, 2, 0, 0, 0, 0) throws IllegalArgumentException;
                lot(0, 1, 2, 0, 0, 1, 0) throws IndexOutOfBoundsException; meanPrice() = 1.0;
                match(5) throws IndexOutOfBoundsException; lot(1, 0, 2, 0, 0, 6, 0) = 5; match(0) = 0; match(1) = 1;
                match(2) = 2; match(3) = 3; match(4) = 4; match(5) = 0; meanPrice() = 1.8333333333333333;
                """);
    }

    private static void lotsInAll() {
        Run run = new Run("at most 20 lots in all").then("""
                edition(1999, 2) = 0; copy(0, 1, 0) = 0; owner(1450, 2029, 0) = 0
                """).count("sale(0, 2000)", 0, 6);
        for (int sale = 0; sale < 4; sale++) {
            run.count("lot(" + sale + ", 0, 2, 0, 0, 9999, 0)", sale * 5, sale < 3 ? 5 : 4);
        }
        run.then("""
                score(19, 0) throws IndexOutOfBoundsException; lot(4, 0, 2, 0, 0, 9999, 0) = 19;
                lot(3, 0, 2, 0, 0, 1, 0) throws IllegalStateException;
                lot(4, 0, 2, 0, 0, 1, 0) throws IllegalStateException;
                lot(5, 0, 2, 0, 0, 1, 0) throws IllegalStateException;
                lot(0, 0, 2, 0, 0, 1, 0) throws IllegalStateException;
                lot(5, 0, 2, 0, 0, 10000, 0) throws IllegalArgumentException;
                lot(6, 0, 2, 0, 0, 1, 0) throws IndexOutOfBoundsException;
                score(20, 0) throws IndexOutOfBoundsException; match(19) = 0; confirm(19, 0) = -1;
                confirm(15, 0) = -1; dearest(0) = 15; reopen(19) = 0; meanPrice() = 9999.0;
                """);
    }

    private static void eachKindAtOnce() {
        Run run = Run.of("each kind full", Trails.FULL);
        Run plain = new Run("each kind full, plain", new PlainTrail()).then(Trails.FULL);
        Check.is("each kind full", String.join("\n", Trails.readingOf(run, Trails.FULL_COUNTS)),
                String.join("\n", Trails.readingOf(plain, Trails.FULL_COUNTS)));
    }

    private static void calls() {
        Run run = Run.of("at most 512 calls", """
                edition(1450, 2) = 0; copy(0, 1, 0) = 0; owner(1450, 2029, 0) = 0; owner(2020, 2029, 0) = 1;
                mark(0, 1, 's', 2029, 30) = 0
                """);
        for (int count = 0; count < 252; count++) {
            boolean isWithdrawn = count % 2 == 0;
            run.then("withdraw(0, " + isWithdrawn + ") = " + !isWithdrawn);
            run.then("holder(0, 2029) = " + count % 2);
        }
        run.then("cost(0) = 118; rests(0, 0) = true; knownShare() = 1.0");
    }
}
