/** A trail without anything, and trails that lack one kind: what each call answers there. */
public final class EmptyTest {
    private EmptyTest() {
    }

    public static void main(String[] args) {
        withoutAnything();
        withoutAnythingAndWithWrongNumbers();
        editionsAlone();
        ownersAlone();
        copiesWithoutOwners();
        salesWithoutLots();
        lotsWithoutCopies();
        copiesWithoutWhatTells();
        ownersWhoAreGone();
        eachObjectForItself();
        Check.close();
    }

    private static void withoutAnything() {
        Run.of("nothing is told: sums", """
                checksum() = 7; isSound() = true;
                knownShare() throws ArithmeticException; meanPrice() throws ArithmeticException;
                """);
        Run.of("nothing is told: each number is refused", """
                copy(0, 1, 0) throws IndexOutOfBoundsException; heir(0, 1) throws IndexOutOfBoundsException;
                heir(0, 0) throws IndexOutOfBoundsException; system(0, 'f') throws IndexOutOfBoundsException;
                rebind(0, 1500) throws IndexOutOfBoundsException; likeness(0, 0) throws IndexOutOfBoundsException;
                mark(0, 0, 's', 1500, 1) throws IndexOutOfBoundsException; wash(0) throws IndexOutOfBoundsException;
                withdraw(0, true) throws IndexOutOfBoundsException; weight(0) throws IndexOutOfBoundsException;
                test(0) throws IndexOutOfBoundsException; lost(0) throws IndexOutOfBoundsException;
                sale(0, 1500) throws IndexOutOfBoundsException;
                lot(0, -1, 2, 0, 0, 1, 0) throws IndexOutOfBoundsException;
                score(0, 0) throws IndexOutOfBoundsException; match(0) throws IndexOutOfBoundsException;
                confirm(0, 0) throws IndexOutOfBoundsException; reopen(0) throws IndexOutOfBoundsException;
                dearest(0) throws IndexOutOfBoundsException; theft(0, 0, 1500) throws IndexOutOfBoundsException;
                faith(0, true) throws IndexOutOfBoundsException; claim(0) throws IndexOutOfBoundsException;
                claimant(0) throws IndexOutOfBoundsException; holder(0, 1500) throws IndexOutOfBoundsException;
                cost(0) throws IndexOutOfBoundsException; margin(0) throws IndexOutOfBoundsException;
                gaps(0) throws IndexOutOfBoundsException; stays(0) throws IndexOutOfBoundsException;
                stay(0, 0) throws IndexOutOfBoundsException; from(0, 0) throws IndexOutOfBoundsException;
                rests(0, 0) throws IndexOutOfBoundsException; shelf(0, 1500) throws IndexOutOfBoundsException;
                shelved(0, 1500, 0) throws IndexOutOfBoundsException;
                written(0, 1500, 0) throws IndexOutOfBoundsException;
                sign(0, 1500, 0, 0) throws IndexOutOfBoundsException; checksum() = 7; edition(1500, 2) = 0;
                owner(1500, 1500, 0) = 0; copy(0, 1, 0) = 0; sale(0, 1500) = 0; mark(0, 0, 's', 1500, 1) = 0;
                lot(0, -1, 2, 0, 0, 1, 0) = 0;
                """);
        Run limits = new Run("nothing is told: each place has a limit of 30 years");
        for (int place = 0; place < 10; place++) {
            limits.then("limit(" + place + ", 30) = 30");
        }
    }

    private static void withoutAnythingAndWithWrongNumbers() {
        Run.of("nothing is told: wrong numbers beside a number that is refused", """
                copy(0, 0, 256) throws IndexOutOfBoundsException; system(0, 'x') throws IndexOutOfBoundsException;
                rebind(0, 2030) throws IndexOutOfBoundsException;
                mark(0, 0, 'x', 1449, 0) throws IndexOutOfBoundsException;
                sale(0, 1449) throws IndexOutOfBoundsException; theft(0, 0, 1449) throws IndexOutOfBoundsException;
                lot(0, -1, 3, -1, -1, 0, 0) throws IndexOutOfBoundsException;
                holder(0, 1449) throws IndexOutOfBoundsException; stay(0, -1) throws IndexOutOfBoundsException;
                from(0, -1) throws IndexOutOfBoundsException; shelf(0, 2030) throws IndexOutOfBoundsException;
                shelved(0, 2030, -1) throws IndexOutOfBoundsException;
                written(0, 2030, 0) throws IndexOutOfBoundsException;
                sign(0, 2030, 0, -1) throws IndexOutOfBoundsException; checksum() = 7;
                """);
    }

    private static void editionsAlone() {
        Run.of("editions without copies", """
                edition(1500, 2) = 0; checksum() = 7; isSound() = true; knownShare() throws ArithmeticException;
                cost(0) throws IndexOutOfBoundsException; copy(1, 1, 0) throws IndexOutOfBoundsException;
                copy(0, 1, 0) = 0;
                """);
    }

    private static void ownersAlone() {
        Run.of("owners without copies", """
                owner(1500, 2029, 0) = 0; shelf(0, 1450) = 0; shelf(0, 2029) = 0;
                shelved(0, 2029, 0) throws NoSuchElementException;
                written(0, 2029, 0) throws IndexOutOfBoundsException;
                sign(0, 2029, 0, 0) throws IndexOutOfBoundsException; heir(0, 1) throws IndexOutOfBoundsException;
                mark(0, 0, 's', 1500, 1) throws IndexOutOfBoundsException;
                theft(0, 0, 1500) throws IndexOutOfBoundsException;
                checksum() = 7; isSound() = true; knownShare() throws ArithmeticException;
                """);
    }

    private static void copiesWithoutOwners() {
        Run.of("copies without owners", """
                edition(1999, 2) = 0; copy(0, 1, 0) = 0; cost(0) = 20; margin(0) = -1; gaps(0) = 4; stays(0) = 1;
                stay(0, 0) = -1; stay(0, 1) throws NoSuchElementException; from(0, 0) = 199;
                from(0, 1) throws NoSuchElementException; holder(0, 1999) throws NoSuchElementException;
                holder(0, 2029) throws NoSuchElementException; knownShare() = 0.0; isSound() = true;
                checksum() = 6433863; likeness(0, 0) = 8; lost(0) = 0; rebind(0, 1999) = 1999;
                dearest(0) throws NoSuchElementException; claim(0) throws UnsupportedOperationException;
                claimant(0) throws UnsupportedOperationException; rests(0, 0) throws IndexOutOfBoundsException;
                mark(0, 0, 's', 1999, 1) throws IndexOutOfBoundsException;
                theft(0, 0, 1999) throws IndexOutOfBoundsException; shelf(0, 1999) throws IndexOutOfBoundsException;
                """);
    }

    private static void salesWithoutLots() {
        Run.of("sales without lots", """
                owner(1500, 2029, 0) = 0; sale(0, 1600) = 0; meanPrice() throws ArithmeticException;
                match(0) throws IndexOutOfBoundsException; reopen(0) throws IndexOutOfBoundsException;
                confirm(0, 0) throws IndexOutOfBoundsException; score(0, 0) throws IndexOutOfBoundsException;
                """);
    }

    private static void lotsWithoutCopies() {
        Run.of("lots without editions and copies", """
                owner(1500, 2029, 0) = 0; sale(0, 1600) = 0;
                lot(0, 0, 2, 0, 0, 7, 0) throws IndexOutOfBoundsException; lot(0, -1, 2, 0, 0, 7, 0) = 0;
                match(0) throws NoSuchElementException; reopen(0) throws UnsupportedOperationException;
                score(0, 0) throws IndexOutOfBoundsException; confirm(0, 0) throws IndexOutOfBoundsException;
                dearest(0) throws IndexOutOfBoundsException; meanPrice() = 7.0; checksum() = 7;
                """);
    }

    private static void copiesWithoutWhatTells() {
        Run.of("copies of which nothing tells", """
                edition(1999, 2) = 0; copy(0, 1, 0) = 0; owner(1999, 2029, 0) = 0; cost(0) = 8; margin(0) = 6;
                gaps(0) = 0; stays(0) = 1; stay(0, 0) = 0; lost(0) = 0; dearest(0) throws NoSuchElementException;
                claim(0) throws UnsupportedOperationException; claimant(0) throws UnsupportedOperationException;
                rests(0, 0) throws IndexOutOfBoundsException; shelf(0, 1999) = 1; written(0, 1999, 0) = 2;
                knownShare() = 1.0; checksum() = 6464647; isSound() = true;
                """);
    }

    private static void ownersWhoAreGone() {
        Run.of("owners who were gone ahead of the edition", """
                edition(2000, 2) throws IllegalArgumentException; edition(1990, 2) = 0; copy(0, 1, 0) = 0;
                owner(1450, 1989, 0) = 0; margin(0) = -1; gaps(0) = 4; shelf(0, 1989) = 0; shelf(0, 1990) = 0;
                knownShare() = 0.0; owner(1450, 1990, 0) = 1; margin(0) = 0; gaps(0) = 3; shelf(1, 1999) = 1;
                """);
    }

    private static void eachObjectForItself() {
        Run one = Run.of("one trail", """
                edition(1500, 2) = 0; copy(0, 1, 0) = 0; owner(1500, 2029, 0) = 0; limit(0, 7) = 30
                """);
        Run other = Run.of("another trail", """
                cost(0) throws IndexOutOfBoundsException; edition(1999, 4) = 0; limit(0, 8) = 30; copy(0, 1, 0) = 0;
                cost(0) = 20
                """);
        one.then("cost(0) = 106; limit(0, 9) = 7");
        other.then("cost(0) = 20; limit(0, 9) = 8");
    }
}
