import java.util.NoSuchElementException;

/** For each promise: ordinary inputs, the edges that the document names, and wrong inputs. */
public final class PromiseTest {
    private static final Class<IndexOutOfBoundsException> NO_SUCH = IndexOutOfBoundsException.class;
    private static final Class<IllegalArgumentException> WRONG = IllegalArgumentException.class;
    private static final Class<IllegalStateException> FULL = IllegalStateException.class;
    private static final Class<UnsupportedOperationException> UNFIT = UnsupportedOperationException.class;
    private static final Class<NoSuchElementException> NONE = NoSuchElementException.class;

    private PromiseTest() {
    }

    public static void main(String[] args) {
        newObject();
        edition();
        copy();
        owner();
        heir();
        system();
        rebind();
        likeness();
        mark();
        wash();
        withdraw();
        weight();
        test();
        lost();
        sale();
        lot();
        score();
        match();
        confirm();
        reopen();
        dearest();
        theft();
        limit();
        faith();
        claim();
        claimant();
        holder();
        cost();
        costOfMoves();
        costOfSales();
        costOfThefts();
        firstOfSeveral();
        margin();
        gaps();
        stays();
        stay();
        from();
        rests();
        shelf();
        shelved();
        written();
        sign();
        checksum();
        knownShare();
        meanPrice();
        isSound();
        changesNothingWhenItThrows();
        Check.close();
    }

    // ---- Trails that several tests begin with ----

    /** Edition 0 of 1980 (decades 198 to 202), copy 0, owner 0 till 1999, owners 1 and 2 from then on. */
    private static Exlibristrail late() {
        Exlibristrail x = new Exlibristrail();
        x.edition(1980, 4);
        x.copy(0, 100, 0);
        x.owner(1970, 1999, 0);
        x.owner(2000, 2029, 1);
        x.owner(2000, 2029, 2);
        return x;
    }

    /** Edition 0 of 1700 in octavo, two copies, three owners, a sale of 1800 by owner 0. */
    private static Exlibristrail market() {
        Exlibristrail x = new Exlibristrail();
        x.edition(1700, 8);
        x.edition(1900, 2);
        x.copy(0, 100, 3);
        x.copy(0, 200, 5);
        x.owner(1700, 1850, 0);
        x.owner(1750, 2029, 0);
        x.owner(1750, 2029, 0);
        x.sale(0, 1800);
        return x;
    }

    // ---- The promises ----

    private static void newObject() {
        Exlibristrail x = new Exlibristrail();
        Check.is("new: checksum", x.checksum(), 7);
        Check.is("new: sound", x.isSound(), true);
        Check.is("new: first edition", x.edition(1450, 2), 0);
        Check.is("new: first owner", x.owner(1450, 1450, 0), 0);
        Check.is("new: first sale", x.sale(0, 1450), 0);
        Check.refuses("new: no copy", NO_SUCH, () -> x.cost(0));
        Check.refuses("new: no lot", NO_SUCH, () -> x.match(0));
        Check.refuses("new: no mark", NO_SUCH, () -> x.test(0));
        Check.is("new: another object is another trail", new Exlibristrail().edition(1500, 2), 0);
    }

    private static void edition() {
        Exlibristrail x = new Exlibristrail();
        Check.refuses("edition: too early", WRONG, () -> x.edition(1449, 2));
        Check.refuses("edition: too late", WRONG, () -> x.edition(2000, 2));
        for (int format : new int[] {-2, 0, 1, 3, 6, 10, 13, 16, Integer.MIN_VALUE, Integer.MAX_VALUE}) {
            Check.refuses("edition: format " + format, WRONG, () -> x.edition(1500, format));
        }
        int[] formats = {2, 4, 8, 12, 2, 4, 8, 12};
        for (int number = 0; number < 8; number++) {
            Check.is("edition", x.edition(number == 0 ? 1450 : 1999, formats[number]), number);
        }
        Check.refuses("edition: a ninth", FULL, () -> x.edition(1500, 2));
        Check.refuses("edition: wrong ahead of full", WRONG, () -> x.edition(1500, 5));
    }

    private static void copy() {
        Exlibristrail x = new Exlibristrail();
        Check.refuses("copy: no edition", NO_SUCH, () -> x.copy(0, 1, 0));
        x.edition(1500, 2);
        Check.refuses("copy: edition -1", NO_SUCH, () -> x.copy(-1, 0, 0));
        Check.refuses("copy: edition 1", NO_SUCH, () -> x.copy(1, 0, 0));
        Check.refuses("copy: no leaves", WRONG, () -> x.copy(0, 0, 0));
        Check.refuses("copy: 1000 leaves", WRONG, () -> x.copy(0, 1000, 0));
        Check.refuses("copy: wounds -1", WRONG, () -> x.copy(0, 1, -1));
        Check.refuses("copy: wounds 256", WRONG, () -> x.copy(0, 1, 256));
        for (int number = 0; number < 10; number++) {
            Check.is("copy", x.copy(0, number == 0 ? 1 : 999, number == 0 ? 0 : 255), number);
        }
        Check.refuses("copy: an eleventh", FULL, () -> x.copy(0, 1, 0));
        Check.refuses("copy: wrong ahead of full", WRONG, () -> x.copy(0, 0, 0));
        Check.is("copy: bound with its edition", x.rebind(9, 1500), 1500);
    }

    private static void owner() {
        Exlibristrail x = new Exlibristrail();
        Check.refuses("owner: too early", WRONG, () -> x.owner(1449, 1500, 0));
        Check.refuses("owner: first too late", WRONG, () -> x.owner(2030, 2030, 0));
        Check.refuses("owner: last too late", WRONG, () -> x.owner(1450, 2030, 0));
        Check.refuses("owner: last ahead of first", WRONG, () -> x.owner(1500, 1499, 0));
        Check.refuses("owner: place -1", WRONG, () -> x.owner(1500, 1500, -1));
        Check.refuses("owner: place 10", WRONG, () -> x.owner(1500, 1500, 10));
        for (int number = 0; number < 12; number++) {
            Check.is("owner", x.owner(number == 0 ? 1450 : 2029, 2029, number == 0 ? 0 : 9), number);
        }
        Check.refuses("owner: a thirteenth", FULL, () -> x.owner(1500, 1500, 0));
        Check.refuses("owner: wrong ahead of full", WRONG, () -> x.owner(1500, 1499, 0));
        Exlibristrail y = late();
        Check.is("owner: chain before a new one", y.holder(0, 1985), 0);
        y.owner(1450, 2029, 0);
        Check.is("owner: a new one opens the chains", y.holder(0, 1985), 3);
    }

    private static void heir() {
        Exlibristrail x = new Exlibristrail();
        x.owner(1500, 1550, 0);
        x.owner(1500, 1550, 0);
        x.owner(1500, 1551, 0);
        Check.refuses("heir: no owner", NO_SUCH, () -> x.heir(3, 0));
        Check.refuses("heir: no heir", NO_SUCH, () -> x.heir(0, 3));
        Check.refuses("heir: -1", NO_SUCH, () -> x.heir(0, -1));
        Check.refuses("heir: owner -1", NO_SUCH, () -> x.heir(-1, -1));
        Check.refuses("heir: the same", WRONG, () -> x.heir(1, 1));
        Check.refuses("heir: ahead of the owner", WRONG, () -> x.heir(2, 0));
        Check.is("heir: first", x.heir(0, 1), -1);
        Check.is("heir: round", x.heir(1, 0), -1);
        Check.is("heir: again", x.heir(0, 2), 1);
        Check.is("heir: the same again", x.heir(0, 2), 2);
        Exlibristrail y = late();
        Check.is("heir: cost before", y.cost(0), 14);
        y.heir(0, 2);
        Check.is("heir: cost behind", y.cost(0), 11);
        Check.is("heir: takes the copy", y.holder(0, 2005), 2);
    }

    private static void system() {
        Exlibristrail x = late();
        Check.is("system: f at first", x.system(0, 'n'), 'f');
        Check.is("system: n", x.system(0, 'n'), 'n');
        Check.is("system: f again", x.system(0, 'f'), 'n');
        Check.is("system: of each owner", x.system(1, 'f'), 'f');
        Check.refuses("system: no owner", NO_SUCH, () -> x.system(3, 'x'));
        Check.refuses("system: owner -1", NO_SUCH, () -> x.system(-1, 'f'));
        Check.refuses("system: F", WRONG, () -> x.system(0, 'F'));
        Check.refuses("system: 0", WRONG, () -> x.system(0, (char) 0));
        Check.is("system: kept", x.system(0, 'f'), 'f');
    }

    private static void rebind() {
        Exlibristrail x = late();
        x.mark(0, 0, 'p', 1985, 10);
        Check.is("rebind: first", x.rebind(0, 1990), 1980);
        Check.is("rebind: tells against the plate", x.test(0), 'b');
        Check.is("rebind: opens the chain", x.cost(0), 14);
        Check.is("rebind: again", x.rebind(0, 1980), 1990);
        Check.is("rebind: opens the chain again", x.cost(0), 12);
        Check.is("rebind: last year", x.rebind(0, 2029), 1980);
        Check.is("rebind: last year kept", x.rebind(0, 2000), 2029);
        Check.refuses("rebind: ahead of the edition", WRONG, () -> x.rebind(0, 1979));
        Check.refuses("rebind: too late", WRONG, () -> x.rebind(0, 2030));
        Check.refuses("rebind: no copy", NO_SUCH, () -> x.rebind(1, 0));
        Check.refuses("rebind: copy -1", NO_SUCH, () -> x.rebind(-1, 2000));
    }

    private static void likeness() {
        Exlibristrail x = new Exlibristrail();
        x.edition(1500, 2);
        x.copy(0, 1, 0);
        x.copy(0, 1, 255);
        x.copy(0, 1, 0x55);
        Check.is("likeness: the same", x.likeness(1, 1), 8);
        Check.is("likeness: unlike", x.likeness(0, 1), 0);
        Check.is("likeness: half", x.likeness(2, 0), 4);
        Check.refuses("likeness: no one", NO_SUCH, () -> x.likeness(3, 0));
        Check.refuses("likeness: no other", NO_SUCH, () -> x.likeness(0, 3));
        Check.refuses("likeness: -1", NO_SUCH, () -> x.likeness(0, -1));
    }

    private static void mark() {
        Exlibristrail x = late();
        Check.refuses("mark: no copy", NO_SUCH, () -> x.mark(1, 0, 's', 1985, 1));
        Check.refuses("mark: copy -1", NO_SUCH, () -> x.mark(-1, 0, 's', 1985, 1));
        Check.refuses("mark: no owner", NO_SUCH, () -> x.mark(0, 3, 'x', 1985, 1));
        Check.refuses("mark: owner -1", NO_SUCH, () -> x.mark(0, -1, 's', 1985, 1));
        Check.refuses("mark: kind", WRONG, () -> x.mark(0, 0, 'b', 1985, 1));
        Check.refuses("mark: year early", WRONG, () -> x.mark(0, 0, 's', 1449, 1));
        Check.refuses("mark: year late", WRONG, () -> x.mark(0, 0, 's', 2030, 1));
        Check.refuses("mark: no weight", WRONG, () -> x.mark(0, 0, 's', 1985, 0));
        Check.refuses("mark: weight 31", WRONG, () -> x.mark(0, 0, 's', 1985, 31));
        char[] kinds = {'s', 'i', 'p', 'a'};
        for (int number = 0; number < 40; number++) {
            int year = number == 0 ? 1450 : 2029;
            Check.is("mark", x.mark(0, 0, kinds[number % 4], year, number == 0 ? 1 : 30), number);
        }
        Check.refuses("mark: a 41st", FULL, () -> x.mark(0, 0, 's', 1985, 1));
        Check.refuses("mark: wrong ahead of full", WRONG, () -> x.mark(0, 0, 's', 1985, 0));
        Exlibristrail y = late();
        Check.is("mark: chain before", y.holder(0, 2005), 1);
        y.mark(0, 2, 's', 2005, 3);
        Check.is("mark: opens the chain", y.holder(0, 2005), 2);
    }

    private static void wash() {
        Exlibristrail x = late();
        x.mark(0, 2, 's', 2005, 2);
        x.mark(0, 1, 's', 2015, 2);
        Check.is("wash: chain before", x.cost(0), 14);
        Check.is("wash: first", x.wash(0), false);
        Check.is("wash: again", x.wash(0), true);
        Check.is("wash: opens the chain", x.cost(0), 13);
        Check.is("wash: another one", x.wash(1), false);
        Check.refuses("wash: none", NO_SUCH, () -> x.wash(2));
        Check.refuses("wash: -1", NO_SUCH, () -> x.wash(-1));
    }

    private static void withdraw() {
        Exlibristrail x = late();
        x.mark(0, 2, 's', 2005, 20);
        Check.is("withdraw: chain before", x.holder(0, 2015), 2);
        Check.is("withdraw: first", x.withdraw(0, true), false);
        Check.is("withdraw: opens the chain", x.holder(0, 2015), 1);
        Check.is("withdraw: again", x.withdraw(0, true), true);
        Check.is("withdraw: told again", x.withdraw(0, false), true);
        Check.is("withdraw: told still", x.withdraw(0, false), false);
        Check.is("withdraw: told again opens the chain", x.holder(0, 2015), 2);
        Check.refuses("withdraw: none", NO_SUCH, () -> x.withdraw(1, true));
        Check.refuses("withdraw: -1", NO_SUCH, () -> x.withdraw(-1, false));
    }

    private static void weight() {
        Exlibristrail x = late();
        x.mark(0, 0, 's', 1985, 29);
        x.mark(0, 0, 's', 1450, 1);
        Check.is("weight: full", x.weight(0), 29);
        Check.is("weight: full whatever tells against it", x.weight(1), 1);
        x.wash(0);
        x.wash(1);
        Check.is("weight: half, cut", x.weight(0), 14);
        Check.is("weight: half of 1", x.weight(1), 0);
        x.withdraw(0, true);
        Check.is("weight: withdrawn", x.weight(0), 0);
        x.wash(0);
        x.withdraw(0, false);
        Check.is("weight: told again, washed still", x.weight(0), 14);
        Check.refuses("weight: none", NO_SUCH, () -> x.weight(2));
        Check.refuses("weight: -1", NO_SUCH, () -> x.weight(-1));
    }

    private static void test() {
        Exlibristrail x = new Exlibristrail();
        x.edition(1600, 2);
        x.copy(0, 1, 0);
        x.owner(1550, 1650, 0);
        x.rebind(0, 1620);
        int[] years = {1549, 1550, 1599, 1600, 1619, 1620, 1650, 1651};
        String[] due = {"eeee", "pppp", "pppp", "--bb", "--bb", "----", "----", "llll"};
        String kinds = "sipa";
        int number = 0;
        for (int row = 0; row < years.length; row++) {
            for (int kind = 0; kind < 4; kind++) {
                x.mark(0, 0, kinds.charAt(kind), years[row], 1);
                Check.is("test: " + kinds.charAt(kind) + " of " + years[row], x.test(number), due[row].charAt(kind));
                number++;
            }
        }
        x.withdraw(0, true);
        Check.is("test: withdrawn", x.test(0), 'e');
        x.rebind(0, 1600);
        Check.is("test: bound anew", x.test(14), '-');
        Check.refuses("test: none", NO_SUCH, () -> x.test(32));
        Check.refuses("test: -1", NO_SUCH, () -> x.test(-1));
    }

    private static void lost() {
        Exlibristrail x = late();
        x.copy(0, 1, 0);
        x.mark(0, 0, 's', 1985, 9);
        x.mark(0, 0, 's', 1450, 9);
        x.mark(1, 0, 's', 1985, 9);
        Check.is("lost: none", x.lost(0), 0);
        x.wash(0);
        x.wash(0);
        Check.is("lost: one", x.lost(0), 1);
        x.wash(1);
        x.withdraw(1, true);
        Check.is("lost: withdrawn and told against too", x.lost(0), 2);
        Check.is("lost: another copy", x.lost(1), 0);
        Check.refuses("lost: none such", NO_SUCH, () -> x.lost(2));
        Check.refuses("lost: -1", NO_SUCH, () -> x.lost(-1));
    }

    private static void sale() {
        Exlibristrail x = late();
        Check.refuses("sale: no owner", NO_SUCH, () -> x.sale(3, 0));
        Check.refuses("sale: -1", NO_SUCH, () -> x.sale(-1, 1500));
        Check.refuses("sale: early", WRONG, () -> x.sale(0, 1449));
        Check.refuses("sale: late", WRONG, () -> x.sale(0, 2030));
        for (int number = 0; number < 6; number++) {
            Check.is("sale", x.sale(0, number == 0 ? 1450 : 2029), number);
        }
        Check.refuses("sale: a seventh", FULL, () -> x.sale(0, 1500));
        Check.refuses("sale: wrong ahead of full", WRONG, () -> x.sale(0, 1449));
    }

    private static void lot() {
        Exlibristrail x = late();
        for (int sale = 0; sale < 6; sale++) {
            x.sale(0, 1990);
        }
        Check.refuses("lot: no sale", NO_SUCH, () -> x.lot(6, 0, 4, 0, 0, 1, 0));
        Check.refuses("lot: sale -1", NO_SUCH, () -> x.lot(-1, 0, 4, 0, 0, 1, 0));
        Check.refuses("lot: no edition", NO_SUCH, () -> x.lot(0, 1, 4, 0, 0, 1, 0));
        Check.refuses("lot: edition -2", NO_SUCH, () -> x.lot(0, -2, 4, 0, 0, 1, 0));
        Check.refuses("lot: no buyer", NO_SUCH, () -> x.lot(0, 0, 5, 0, 0, 1, 3));
        Check.refuses("lot: buyer -1", NO_SUCH, () -> x.lot(0, 0, 4, 0, 0, 1, -1));
        Check.refuses("lot: format", WRONG, () -> x.lot(0, 0, 6, 0, 0, 1, 0));
        Check.refuses("lot: leaves -1", WRONG, () -> x.lot(0, 0, 4, -1, 0, 1, 0));
        Check.refuses("lot: leaves 1000", WRONG, () -> x.lot(0, 0, 4, 1000, 0, 1, 0));
        Check.refuses("lot: wounds -1", WRONG, () -> x.lot(0, 0, 4, 0, -1, 1, 0));
        Check.refuses("lot: wounds 256", WRONG, () -> x.lot(0, 0, 4, 0, 256, 1, 0));
        Check.refuses("lot: price 0", WRONG, () -> x.lot(0, 0, 4, 0, 0, 0, 0));
        Check.refuses("lot: price 10000", WRONG, () -> x.lot(0, 0, 4, 0, 0, 10000, 0));
        for (int number = 0; number < 5; number++) {
            Check.is("lot", x.lot(0, -1, 4, 999, 255, 9999, 0), number);
        }
        Check.refuses("lot: a sixth of a sale", FULL, () -> x.lot(0, 0, 4, 0, 0, 1, 0));
        for (int number = 5; number < 20; number++) {
            Check.is("lot", x.lot(1 + number % 5, 0, 12, 0, 0, 1, 0), number);
        }
        Check.refuses("lot: a 21st", FULL, () -> x.lot(1, 0, 4, 0, 0, 1, 0));
        Check.refuses("lot: wrong ahead of full", WRONG, () -> x.lot(1, 0, 4, 0, 0, 0, 0));
    }

    private static void score() {
        Exlibristrail x = market();
        x.copy(1, 100, 3);
        x.lot(0, 0, 8, 100, 7, 1, 1);
        Check.is("score: format, leaves, two wounds less one", x.score(0, 0), 35);
        Check.is("score: other leaves", x.score(0, 1), 25);
        Check.is("score: another edition", x.score(0, 2), 0);
        x.lot(0, -1, 2, 0, 2, 1, 1);
        Check.is("score: one wound alone", x.score(1, 0), 5);
        Check.is("score: at least 0", x.score(1, 1), 0);
        Check.is("score: edition later than the sale", x.score(1, 2), 0);
        x.sale(0, 1900);
        x.lot(1, -1, 2, 0, 0, 1, 1);
        Check.is("score: edition of the year of the sale", x.score(2, 2), 20);
        x.sale(0, 1899);
        x.lot(2, 1, 2, 0, 0, 1, 1);
        Check.is("score: edition of the year behind the sale", x.score(3, 2), 0);
        x.lot(0, 0, 8, 0, 255, 1, 1);
        Check.is("score: six wounds not there", x.score(4, 0), 0);
        Check.refuses("score: no lot", NO_SUCH, () -> x.score(5, 0));
        Check.refuses("score: lot -1", NO_SUCH, () -> x.score(-1, 0));
        Check.refuses("score: no copy", NO_SUCH, () -> x.score(0, 3));
        Check.refuses("score: copy -1", NO_SUCH, () -> x.score(0, -1));
    }

    private static void match() {
        Exlibristrail x = market();
        x.lot(0, 0, 8, 0, 0, 1, 1);
        x.lot(0, 0, 8, 0, 0, 1, 1);
        x.lot(0, 0, 8, 0, 0, 1, 1);
        Check.is("match: first of several, lot 0", x.match(0), 0);
        Check.is("match: first of several, lot 1", x.match(1), 1);
        Check.refuses("match: none is behind all copies", NONE, () -> x.match(2));
        x.confirm(2, 0);
        Check.is("match: whatever is confirmed", x.match(0), 0);
        x.lot(0, 0, 8, 100, 3, 1, 1);
        Check.refuses("match: a better lot takes the copy", NONE, () -> x.match(1));
        Check.is("match: the lot left", x.match(0), 1);
        Check.is("match: the better lot", x.match(3), 0);
        x.sale(0, 1800);
        x.lot(1, 0, 2, 0, 0, 1, 1);
        Check.refuses("match: score 0", NONE, () -> x.match(4));
        x.lot(1, 0, 8, 100, 1, 1, 1);
        Check.is("match: each sale for itself", x.match(5), 0);
        Check.refuses("match: no lot", NO_SUCH, () -> x.match(6));
        Check.refuses("match: lot -1", NO_SUCH, () -> x.match(-1));
        Exlibristrail y = market();
        y.lot(0, 0, 8, 100, 0, 1, 1);
        y.lot(0, 0, 8, 0, 3, 1, 1);
        Check.is("match: alone for most", y.score(1, 0), 30);
        Check.is("match: the sum counts, lot 0", y.match(0), 1 - 1);
        Check.is("match: the sum counts, lot 1", y.match(1), 1);
    }

    private static void confirm() {
        Exlibristrail x = market();
        x.lot(0, 0, 8, 0, 0, 1, 1);
        x.lot(0, 0, 8, 0, 0, 1, 2);
        x.lot(0, 1, 8, 0, 0, 1, 2);
        Check.is("confirm: first", x.confirm(0, 1), -1);
        Check.is("confirm: the same again", x.confirm(0, 1), 1);
        Check.refuses("confirm: for another lot", UNFIT, () -> x.confirm(1, 1));
        Check.refuses("confirm: score 0", UNFIT, () -> x.confirm(2, 0));
        Check.is("confirm: opens the chain", x.holder(1, 1805), 1);
        Check.is("confirm: in place", x.confirm(0, 0), 1);
        Check.is("confirm: opens the chain left", x.cost(1), 70);
        Check.is("confirm: opens the chain taken", x.cost(0), 62);
        Check.is("confirm: the copy left is free", x.confirm(1, 1), -1);
        x.sale(1, 1900);
        x.lot(1, 0, 8, 0, 0, 1, 2);
        Check.is("confirm: in another sale", x.confirm(3, 1), -1);
        Check.refuses("confirm: no lot", NO_SUCH, () -> x.confirm(4, 0));
        Check.refuses("confirm: lot -1", NO_SUCH, () -> x.confirm(-1, 0));
        Check.refuses("confirm: no copy", NO_SUCH, () -> x.confirm(2, 2));
        Check.refuses("confirm: copy -1", NO_SUCH, () -> x.confirm(2, -1));
    }

    private static void reopen() {
        Exlibristrail x = market();
        x.lot(0, 0, 8, 0, 0, 1, 1);
        Check.refuses("reopen: not confirmed", UNFIT, () -> x.reopen(0));
        int before = x.cost(1);
        x.confirm(0, 1);
        Check.is("reopen: confirmed", x.cost(1), before - 8);
        Check.is("reopen", x.reopen(0), 1);
        Check.is("reopen: opens the chain", x.cost(1), before);
        Check.refuses("reopen: again", UNFIT, () -> x.reopen(0));
        Check.is("reopen: confirmed anew", x.confirm(0, 0), -1);
        Check.refuses("reopen: no lot", NO_SUCH, () -> x.reopen(1));
        Check.refuses("reopen: lot -1", NO_SUCH, () -> x.reopen(-1));
    }

    private static void dearest() {
        Exlibristrail x = market();
        x.sale(1, 1900);
        x.sale(1, 1950);
        x.lot(0, 0, 8, 0, 0, 70, 1);
        x.lot(1, 0, 8, 0, 0, 80, 2);
        x.lot(2, 0, 8, 0, 0, 80, 2);
        x.lot(2, 0, 8, 0, 0, 9999, 2);
        Check.refuses("dearest: none", NONE, () -> x.dearest(0));
        x.confirm(2, 0);
        x.confirm(1, 0);
        x.confirm(0, 0);
        x.confirm(3, 1);
        Check.is("dearest: lowest of several", x.dearest(0), 1);
        Check.is("dearest: of the copy", x.dearest(1), 3);
        x.reopen(1);
        x.reopen(2);
        Check.is("dearest: what is left", x.dearest(0), 0);
        Check.refuses("dearest: no copy", NO_SUCH, () -> x.dearest(2));
        Check.refuses("dearest: copy -1", NO_SUCH, () -> x.dearest(-1));
    }

    private static void theft() {
        Exlibristrail x = late();
        x.copy(0, 1, 0);
        Check.refuses("theft: no copy", NO_SUCH, () -> x.theft(2, 0, 1990));
        Check.refuses("theft: copy -1", NO_SUCH, () -> x.theft(-1, 0, 1990));
        Check.refuses("theft: no owner", NO_SUCH, () -> x.theft(0, 3, 1));
        Check.refuses("theft: owner -1", NO_SUCH, () -> x.theft(0, -1, 1990));
        Check.refuses("theft: ahead of the edition", WRONG, () -> x.theft(0, 0, 1979));
        Check.refuses("theft: late", WRONG, () -> x.theft(0, 0, 2030));
        Check.is("theft: cost before", x.cost(0), 14);
        Check.is("theft: first", x.theft(0, 0, 1980), 1);
        Check.is("theft: opens the chain", x.cost(0), 12);
        Check.refuses("theft: again", UNFIT, () -> x.theft(0, 0, 1980));
        Check.refuses("theft: wrong ahead of stolen", WRONG, () -> x.theft(0, 0, 1979));
        Check.is("theft: second", x.theft(1, 1, 2029), 2);
    }

    private static void limit() {
        Exlibristrail x = new Exlibristrail();
        for (int place = 0; place < 10; place++) {
            Check.is("limit: 30 at first", x.limit(place, place * 10), 30);
        }
        Check.is("limit: kept", x.limit(9, 200), 90);
        Check.is("limit: 200", x.limit(9, 0), 200);
        Check.is("limit: 0", x.limit(9, 0), 0);
        Check.refuses("limit: place -1", WRONG, () -> x.limit(-1, 0));
        Check.refuses("limit: place 10", WRONG, () -> x.limit(10, 0));
        Check.refuses("limit: years -1", WRONG, () -> x.limit(0, -1));
        Check.refuses("limit: years 201", WRONG, () -> x.limit(0, 201));
        Check.is("limit: unchanged", x.limit(0, 1), 0);
    }

    private static void faith() {
        Exlibristrail x = late();
        Check.is("faith: good at first", x.faith(0, true), true);
        Check.is("faith: good", x.faith(0, false), true);
        Check.is("faith: bad", x.faith(0, false), false);
        Check.is("faith: bad till told", x.faith(0, true), false);
        Check.is("faith: of each owner", x.faith(1, false), true);
        Check.refuses("faith: no owner", NO_SUCH, () -> x.faith(3, true));
        Check.refuses("faith: -1", NO_SUCH, () -> x.faith(-1, true));
    }

    private static void claim() {
        Exlibristrail x = late();
        Check.refuses("claim: not stolen", UNFIT, () -> x.claim(0));
        Check.refuses("claim: no copy", NO_SUCH, () -> x.claim(1));
        Check.refuses("claim: copy -1", NO_SUCH, () -> x.claim(-1));
        x.theft(0, 0, 1995);
        Check.is("claim: no claimant", x.claim(0), 'n');
        x.heir(0, 1);
        Check.is("claim: with the claimant", x.claim(0), 'n');
        x.mark(0, 2, 's', 2005, 30);
        x.limit(2, 20);
        Check.is("claim: began in 2000, limit 20", x.claim(0), 'r');
        x.limit(2, 19);
        Check.is("claim: limit 19", x.claim(0), 'k');
        x.faith(2, false);
        Check.is("claim: bad faith", x.claim(0), 's');
        x.limit(1, 200);
        Check.is("claim: the holder's place counts", x.claim(0), 's');
        x.limit(2, 20);
        Check.is("claim: the limit ahead of the faith", x.claim(0), 'r');
        Exlibristrail y = new Exlibristrail();
        y.edition(1990, 2);
        y.copy(0, 1, 0);
        y.owner(1900, 2019, 0);
        y.owner(2029, 2029, 0);
        y.heir(0, 1);
        y.theft(0, 0, 2029);
        Check.is("claim: never with whom it was stolen from", y.claim(0), 'n');
        Exlibristrail z = new Exlibristrail();
        z.edition(1990, 2);
        z.copy(0, 1, 0);
        z.owner(1900, 1950, 0);
        z.owner(1900, 2010, 0);
        z.theft(0, 0, 2000);
        Check.is("claim: unknown now", z.claim(0), 'n');
        Exlibristrail now = late();
        now.heir(0, 1);
        now.theft(0, 0, 1995);
        now.mark(0, 1, 's', 2005, 30);
        now.mark(0, 2, 's', 2020, 30);
        now.limit(2, 0);
        Check.is("claim: began now, limit 0", now.claim(0), 'r');
    }

    private static void claimant() {
        Exlibristrail x = late();
        Check.refuses("claimant: not stolen", UNFIT, () -> x.claimant(0));
        Check.refuses("claimant: no copy", NO_SUCH, () -> x.claimant(1));
        Check.refuses("claimant: copy -1", NO_SUCH, () -> x.claimant(-1));
        x.theft(0, 0, 1995);
        Check.refuses("claimant: no heir", NONE, () -> x.claimant(0));
        x.heir(0, 2);
        x.heir(2, 1);
        Check.is("claimant: the first there in 2029", x.claimant(0), 2);
        Exlibristrail y = new Exlibristrail();
        y.edition(1990, 2);
        y.copy(0, 1, 0);
        for (int number = 0; number < 12; number++) {
            y.owner(1900, number < 11 ? 2028 : 2029, 0);
        }
        for (int number = 0; number < 11; number++) {
            y.heir(number, number + 1);
        }
        y.theft(0, 0, 1990);
        Check.is("claimant: the twelfth", y.claimant(0), 11);
        y.heir(10, 5);
        Check.refuses("claimant: heirs lead round", NONE, () -> y.claimant(0));
        y.copy(0, 1, 0);
        y.theft(1, 11, 1990);
        Check.is("claimant: who it was stolen from", y.claimant(1), 11);
    }

    private static void holder() {
        Exlibristrail x = late();
        Check.refuses("holder: ahead of the edition", NONE, () -> x.holder(0, 1979));
        Check.refuses("holder: first year of all", NONE, () -> x.holder(0, 1450));
        Check.is("holder: first decade", x.holder(0, 1980), 0);
        Check.is("holder: end of a decade", x.holder(0, 1999), 0);
        Check.is("holder: begin of the next", x.holder(0, 2000), 1);
        Check.is("holder: now", x.holder(0, 2029), 1);
        Check.refuses("holder: early", WRONG, () -> x.holder(0, 1449));
        Check.refuses("holder: late", WRONG, () -> x.holder(0, 2030));
        Check.refuses("holder: no copy", NO_SUCH, () -> x.holder(1, 0));
        Check.refuses("holder: copy -1", NO_SUCH, () -> x.holder(-1, 2000));
        Exlibristrail y = new Exlibristrail();
        y.edition(1985, 2);
        y.copy(0, 1, 0);
        Check.refuses("holder: unknown", NONE, () -> y.holder(0, 2000));
        y.owner(1450, 1980, 0);
        Check.is("holder: in the edition's decade, ahead of its year", y.holder(0, 1980), 0);
    }

    private static void cost() {
        Exlibristrail x = new Exlibristrail();
        x.edition(1450, 2);
        x.edition(1999, 2);
        x.copy(0, 1, 0);
        x.copy(1, 1, 0);
        Check.is("cost: unknown for 58 decades", x.cost(0), 290);
        Check.is("cost: unknown for 4", x.cost(1), 20);
        x.owner(1450, 2029, 0);
        Check.is("cost: untold for 58 decades", x.cost(0), 116);
        x.mark(1, 0, 's', 2000, 1);
        Check.is("cost: told in one", x.cost(1), 6);
        Check.is("cost: of the other copy", x.cost(0), 116);
        x.owner(2000, 2010, 0);
        x.mark(1, 1, 'i', 2005, 1);
        Check.is("cost: the weight not met", x.cost(1), 7);
        x.mark(1, 1, 'i', 2011, 30);
        Check.is("cost: what is told against does not tell", x.cost(1), 7);
        x.wash(1);
        Check.is("cost: half of 1 does not tell", x.cost(1), 6);
        Check.refuses("cost: no copy", NO_SUCH, () -> x.cost(2));
        Check.refuses("cost: copy -1", NO_SUCH, () -> x.cost(-1));
    }

    private static void costOfMoves() {
        Exlibristrail x = late();
        Check.is("moves: to another one", x.cost(0), 5 * 2 + 4);
        x.heir(0, 1);
        Check.is("moves: to the heir", x.cost(0), 5 * 2 + 1);
        Exlibristrail y = new Exlibristrail();
        y.edition(1980, 2);
        y.copy(0, 1, 0);
        y.owner(1980, 1999, 0);
        Check.is("moves: to unknown", y.cost(0), 2 * 2 + 3 + 3 * 5);
        y.owner(2010, 2029, 0);
        Check.is("moves: unknown between", y.cost(0), 4 * 2 + 5 + 3 + 3);
        y.owner(2000, 2009, 0);
        Check.is("moves: two others instead of unknown", y.cost(0), 5 * 2 + 4 + 4);
        y.heir(0, 2);
        y.heir(2, 1);
        Check.is("moves: two heirs", y.cost(0), 5 * 2 + 1 + 1);
    }

    private static void costOfSales() {
        Exlibristrail x = market();
        Check.is("sales: before", x.cost(0), 33 * 2 + 4);
        x.lot(0, 0, 8, 0, 0, 1, 2);
        Check.is("sales: a lot that is not confirmed", x.cost(0), 33 * 2 + 4);
        x.confirm(0, 0);
        Check.is("sales: seller to buyer", x.cost(0), 31 * 2);
        Check.is("sales: the seller's last decade", x.holder(0, 1799), 0);
        Check.is("sales: the buyer's first decade", x.holder(0, 1800), 2);
        x.lot(0, 0, 8, 0, 0, 1, 1);
        x.confirm(1, 1);
        Check.is("sales: each copy for itself", x.holder(1, 1800), 1);
        Exlibristrail y = new Exlibristrail();
        y.edition(1990, 2);
        y.copy(0, 1, 0);
        y.owner(1900, 2029, 0);
        y.owner(1900, 2029, 0);
        y.sale(0, 1995);
        y.lot(0, 0, 2, 0, 0, 1, 1);
        y.confirm(0, 0);
        Check.is("sales: the edition was not there the decade ahead", y.cost(0), 3 * 2);
        Check.is("sales: the buyer", y.holder(0, 1990), 1);
        Exlibristrail z = late();
        z.sale(1, 2000);
        z.lot(0, 0, 4, 0, 0, 1, 2);
        z.confirm(0, 0);
        Check.is("sales: the seller is not there, the weight counts", z.cost(0), 4 * 2 + 15 + 4);
    }

    private static void costOfThefts() {
        Exlibristrail x = new Exlibristrail();
        x.edition(1980, 2);
        x.copy(0, 1, 0);
        x.owner(1980, 1999, 0);
        x.owner(2000, 2009, 0);
        x.theft(0, 1, 2005);
        Check.is("thefts: to unknown for nothing", x.cost(0), 2 * 2 + 4 + 0 + 2 * 5);
        Exlibristrail y = late();
        y.theft(0, 1, 1985);
        Check.is("thefts: who is not there, the weight counts", y.cost(0), 5 * 2 + 4 + 20);
        Exlibristrail z = late();
        z.theft(0, 1, 2029);
        Check.is("thefts: now", z.cost(0), 4 * 2 + 4);
        Check.is("thefts: now, with", z.holder(0, 2029), 1);
    }

    private static void firstOfSeveral() {
        Exlibristrail x = late();
        x.mark(0, 0, 's', 1985, 9);
        x.mark(0, 2, 's', 2005, 9);
        x.mark(0, 1, 's', 2025, 9);
        Check.is("first: moves as early as may be to the lower one", x.holder(0, 2015), 1);
        Check.is("first: by owners, decade by decade", x.stays(0), 3);
        Exlibristrail y = new Exlibristrail();
        y.edition(1999, 2);
        y.copy(0, 1, 0);
        y.owner(1990, 2029, 0);
        y.owner(1990, 2029, 0);
        y.mark(0, 1, 's', 1999, 6);
        Check.is("first: 0 is ahead of 1 at the same cost", y.cost(0), 6);
        y.mark(0, 0, 's', 2020, 2);
        Check.is("first: cost", y.cost(0), 8);
        Check.is("first: the later chain", y.holder(0, 1999), 1);
        y.mark(0, 0, 's', 2010, 2);
        Check.is("first: the cost with a move", y.cost(0), 6);
        Check.is("first: early moves", y.from(0, 1), 200);
        Exlibristrail z = new Exlibristrail();
        z.edition(1999, 2);
        z.copy(0, 1, 0);
        z.owner(2000, 2000, 0);
        z.theft(0, 0, 2000);
        Check.is("first: unknown, known, unknown", z.cost(0), 5 + 3 + 5 + 5);
        Check.is("first: known in its decade", z.holder(0, 2001), 0);
    }

    private static void margin() {
        Exlibristrail x = new Exlibristrail();
        x.edition(1999, 2);
        x.copy(0, 1, 0);
        Check.is("margin: no other chain", x.margin(0), -1);
        x.owner(1450, 1989, 0);
        Check.is("margin: an owner who is gone", x.margin(0), -1);
        x.owner(2020, 2029, 0);
        Check.is("margin: as much", x.margin(0), 0);
        x.mark(0, 1, 's', 2020, 7);
        Check.is("margin: more", x.margin(0), 9);
        x.owner(2020, 2029, 0);
        Check.is("margin: another one at the end", x.margin(0), 9);
        x.mark(0, 2, 's', 2029, 4);
        Check.is("margin: a mark of the other one", x.margin(0), 3);
        Check.refuses("margin: no copy", NO_SUCH, () -> x.margin(1));
        Check.refuses("margin: copy -1", NO_SUCH, () -> x.margin(-1));
    }

    private static void gaps() {
        Exlibristrail x = new Exlibristrail();
        x.edition(1500, 2);
        x.copy(0, 1, 0);
        Check.is("gaps: all", x.gaps(0), 53);
        x.owner(1600, 1709, 0);
        Check.is("gaps: but eleven", x.gaps(0), 42);
        x.owner(1450, 2029, 0);
        Check.is("gaps: none", x.gaps(0), 0);
        Check.refuses("gaps: no copy", NO_SUCH, () -> x.gaps(1));
        Check.refuses("gaps: copy -1", NO_SUCH, () -> x.gaps(-1));
    }

    private static void stays() {
        Exlibristrail x = new Exlibristrail();
        x.edition(1500, 2);
        x.copy(0, 1, 0);
        Check.is("stays: one", x.stays(0), 1);
        x.owner(1600, 1709, 0);
        Check.is("stays: unknown twice", x.stays(0), 3);
        x.owner(1450, 2029, 0);
        Check.is("stays: one again", x.stays(0), 1);
        x.mark(0, 0, 's', 1655, 30);
        Check.is("stays: two of the same owner", x.stays(0), 3);
        Check.refuses("stays: no copy", NO_SUCH, () -> x.stays(1));
        Check.refuses("stays: copy -1", NO_SUCH, () -> x.stays(-1));
    }

    private static Exlibristrail known1600To1709() {
        Exlibristrail x = new Exlibristrail();
        x.edition(1505, 2);
        x.copy(0, 1, 0);
        x.owner(1600, 1709, 0);
        return x;
    }

    private static void stay() {
        Exlibristrail x = known1600To1709();
        Check.is("stay: unknown", x.stay(0, 0), -1);
        Check.is("stay: known", x.stay(0, 1), 0);
        Check.is("stay: unknown again", x.stay(0, 2), -1);
        Check.refuses("stay: a fourth", NONE, () -> x.stay(0, 3));
        Check.refuses("stay: -1", NONE, () -> x.stay(0, -1));
        Check.refuses("stay: the greatest int", NONE, () -> x.stay(0, Integer.MAX_VALUE));
        Check.refuses("stay: no copy", NO_SUCH, () -> x.stay(1, -1));
        Check.refuses("stay: copy -1", NO_SUCH, () -> x.stay(-1, 0));
    }

    private static void from() {
        Exlibristrail x = known1600To1709();
        Check.is("from: the edition's decade", x.from(0, 0), 150);
        Check.is("from: known", x.from(0, 1), 160);
        Check.is("from: unknown again", x.from(0, 2), 171);
        Check.refuses("from: a fourth", NONE, () -> x.from(0, 3));
        Check.refuses("from: -1", NONE, () -> x.from(0, -1));
        Check.refuses("from: the least int", NONE, () -> x.from(0, Integer.MIN_VALUE));
        Check.refuses("from: no copy", NO_SUCH, () -> x.from(1, -1));
        Check.refuses("from: copy -1", NO_SUCH, () -> x.from(-1, 0));
    }

    private static void rests() {
        Exlibristrail x = late();
        x.copy(0, 1, 0);
        x.mark(0, 2, 's', 2005, 20);
        x.mark(0, 0, 's', 1985, 20);
        x.mark(0, 2, 's', 1985, 20);
        x.mark(1, 2, 's', 2005, 20);
        Check.is("rests: another chain without it", x.rests(0, 0), true);
        Check.is("rests: the same chain without it", x.rests(0, 1), false);
        Check.is("rests: told against", x.rests(0, 2), false);
        Check.is("rests: a mark of another copy", x.rests(0, 3), false);
        Check.is("rests: of that copy", x.rests(1, 3), true);
        Check.is("rests: changes nothing", x.holder(0, 2005), 2);
        Check.is("rests: nor the weight", x.weight(0), 20);
        x.withdraw(0, true);
        Check.is("rests: withdrawn already", x.rests(0, 0), false);
        Check.refuses("rests: no copy", NO_SUCH, () -> x.rests(2, 0));
        Check.refuses("rests: copy -1", NO_SUCH, () -> x.rests(-1, 0));
        Check.refuses("rests: no mark", NO_SUCH, () -> x.rests(0, 4));
        Check.refuses("rests: mark -1", NO_SUCH, () -> x.rests(0, -1));
    }

    /** A library of owner 0: copies 3 (folio), 1 and 4 (quarto), 0 (octavo), 2 (duodecimo). */
    private static Exlibristrail library() {
        Exlibristrail x = new Exlibristrail();
        x.edition(1700, 8);
        x.edition(1700, 4);
        x.edition(1700, 12);
        x.edition(1900, 2);
        x.copy(0, 1, 0);
        x.copy(1, 1, 0);
        x.copy(2, 1, 0);
        x.copy(3, 1, 0);
        x.copy(1, 1, 0);
        x.owner(1600, 2029, 0);
        x.owner(1600, 2029, 0);
        return x;
    }

    private static void shelf() {
        Exlibristrail x = library();
        Check.is("shelf: all", x.shelf(0, 1900), 5);
        Check.is("shelf: ahead of an edition", x.shelf(0, 1899), 4);
        Check.is("shelf: ahead of all", x.shelf(0, 1699), 0);
        Check.is("shelf: another owner", x.shelf(1, 1900), 0);
        x.mark(0, 1, 's', 1950, 30);
        Check.is("shelf: one left for another", x.shelf(0, 1950), 4);
        Check.is("shelf: and came there", x.shelf(1, 1959), 1);
        Check.refuses("shelf: no owner", NO_SUCH, () -> x.shelf(2, 0));
        Check.refuses("shelf: owner -1", NO_SUCH, () -> x.shelf(-1, 1900));
        Check.refuses("shelf: early", WRONG, () -> x.shelf(0, 1449));
        Check.refuses("shelf: late", WRONG, () -> x.shelf(0, 2030));
    }

    private static void shelved() {
        Exlibristrail x = library();
        int[] due = {3, 1, 4, 0, 2};
        for (int index = 0; index < 5; index++) {
            Check.is("shelved: " + index, x.shelved(0, 2029, index), due[index]);
        }
        Check.is("shelved: ahead of the folio", x.shelved(0, 1800, 0), 1);
        Check.refuses("shelved: a sixth", NONE, () -> x.shelved(0, 2029, 5));
        Check.refuses("shelved: -1", NONE, () -> x.shelved(0, 2029, -1));
        Check.refuses("shelved: the greatest int", NONE, () -> x.shelved(0, 2029, Integer.MAX_VALUE));
        Check.refuses("shelved: the least int", NONE, () -> x.shelved(0, 2029, Integer.MIN_VALUE));
        Check.refuses("shelved: an empty library", NONE, () -> x.shelved(1, 2029, 0));
        Check.refuses("shelved: no owner", NO_SUCH, () -> x.shelved(2, 0, 0));
        Check.refuses("shelved: owner -1", NO_SUCH, () -> x.shelved(-1, 2000, 0));
        Check.refuses("shelved: early", WRONG, () -> x.shelved(0, 1449, -1));
        Check.refuses("shelved: late", WRONG, () -> x.shelved(0, 2030, 0));
    }

    private static String shelfMark(Exlibristrail x, int owner, int year, int copy) {
        StringBuilder text = new StringBuilder();
        int length = x.written(owner, year, copy);
        for (int place = 0; place < length; place++) {
            text.append(x.sign(owner, year, copy, place));
        }
        return text.toString();
    }

    private static void written() {
        Exlibristrail x = library();
        Check.is("written: by formats", x.written(0, 2000, 4), 2);
        x.system(0, 'n');
        Check.is("written: by numbers", x.written(0, 2000, 4), 3);
        Check.refuses("written: not in the library", NONE, () -> x.written(1, 2000, 4));
        Check.refuses("written: ahead of the edition", NONE, () -> x.written(0, 1899, 3));
        Check.refuses("written: no owner", NO_SUCH, () -> x.written(2, 0, 4));
        Check.refuses("written: owner -1", NO_SUCH, () -> x.written(-1, 2000, 4));
        Check.refuses("written: no copy", NO_SUCH, () -> x.written(0, 0, 5));
        Check.refuses("written: copy -1", NO_SUCH, () -> x.written(0, 2000, -1));
        Check.refuses("written: early", WRONG, () -> x.written(0, 1449, 4));
        Check.refuses("written: late", WRONG, () -> x.written(0, 2030, 4));
        Exlibristrail y = new Exlibristrail();
        y.edition(1700, 4);
        y.owner(1700, 2029, 0);
        for (int number = 0; number < 10; number++) {
            y.copy(0, 1, 0);
        }
        Check.is("written: the ninth of a format", y.written(0, 1700, 8), 2);
        Check.is("written: the tenth of a format", y.written(0, 1700, 9), 3);
        Check.is("written: its signs", shelfMark(y, 0, 1700, 9), "B10");
        y.system(0, 'n');
        Check.is("written: the ninth of all", shelfMark(y, 0, 1700, 8), "009");
        Check.is("written: the tenth of all", shelfMark(y, 0, 1700, 9), "010");
    }

    private static void sign() {
        Exlibristrail x = library();
        String[] byFormats = {"C1", "B1", "D1", "A1", "B2"};
        String[] byNumbers = {"004", "002", "005", "001", "003"};
        for (int copy = 0; copy < 5; copy++) {
            Check.is("sign: by formats", shelfMark(x, 0, 2000, copy), byFormats[copy]);
        }
        Check.refuses("sign: behind the last", NONE, () -> x.sign(0, 2000, 4, 2));
        x.system(0, 'n');
        for (int copy = 0; copy < 5; copy++) {
            Check.is("sign: by numbers", shelfMark(x, 0, 2000, copy), byNumbers[copy]);
        }
        Check.refuses("sign: behind the last of three", NONE, () -> x.sign(0, 2000, 4, 3));
        Check.refuses("sign: -1", NONE, () -> x.sign(0, 2000, 4, -1));
        Check.refuses("sign: not in the library", NONE, () -> x.sign(1, 2000, 4, 0));
        Check.refuses("sign: no owner", NO_SUCH, () -> x.sign(2, 0, 4, 0));
        Check.refuses("sign: owner -1", NO_SUCH, () -> x.sign(-1, 2000, 4, 0));
        Check.refuses("sign: no copy", NO_SUCH, () -> x.sign(0, 0, 5, 0));
        Check.refuses("sign: copy -1", NO_SUCH, () -> x.sign(0, 2000, -1, 0));
        Check.refuses("sign: early", WRONG, () -> x.sign(0, 1449, 4, -1));
        Check.refuses("sign: late", WRONG, () -> x.sign(0, 2030, 4, 0));
    }

    private static void checksum() {
        Exlibristrail x = late();
        long due = 7;
        for (int state : new int[] {0, 0, 1, 1, 1}) {
            due = 31 * due + state;
        }
        Check.is("checksum: a copy", x.checksum(), due);
        x.edition(1999, 2);
        x.copy(1, 1, 0);
        for (int state : new int[] {0, 1, 1, 1}) {
            due = 31 * due + state;
        }
        Check.is("checksum: two copies", x.checksum(), due);
        Exlibristrail y = new Exlibristrail();
        y.edition(1450, 2);
        y.copy(0, 1, 0);
        due = 7;
        for (int decade = 145; decade <= 202; decade++) {
            due = 31 * due - 1;
        }
        Check.is("checksum: unknown, wrapping around", y.checksum(), due);
    }

    private static void knownShare() {
        Exlibristrail x = new Exlibristrail();
        Check.refuses("knownShare: none", ArithmeticException.class, () -> x.knownShare());
        x.edition(1900, 2);
        x.edition(1800, 2);
        x.copy(0, 1, 0);
        Check.is("knownShare: unknown", x.knownShare(), 0.0f);
        x.owner(1900, 2029, 0);
        Check.is("knownShare: known", x.knownShare(), 1.0f);
        x.copy(1, 1, 0);
        x.copy(1, 1, 0);
        Check.is("knownShare: one of three", x.knownShare(), 1.0f / 3.0f);
    }

    private static void meanPrice() {
        Exlibristrail x = late();
        Check.refuses("meanPrice: none", ArithmeticException.class, () -> x.meanPrice());
        x.sale(0, 1990);
        Check.refuses("meanPrice: a sale without lots", ArithmeticException.class, () -> x.meanPrice());
        x.lot(0, 0, 4, 0, 0, 9999, 1);
        Check.is("meanPrice: one", x.meanPrice(), 9999.0);
        x.lot(0, 0, 4, 0, 0, 1, 1);
        x.lot(0, 0, 4, 0, 0, 1, 1);
        Check.is("meanPrice: three", x.meanPrice(), 10001.0 / 3.0);
    }

    private static void isSound() {
        Exlibristrail x = market();
        x.lot(0, 0, 8, 0, 0, 1, 2);
        x.confirm(0, 0);
        x.mark(0, 1, 's', 1900, 12);
        x.theft(0, 1, 1905);
        x.theft(1, 0, 1905);
        Check.is("isSound", x.isSound(), true);
        x.withdraw(0, true);
        Check.is("isSound: withdrawn", x.isSound(), true);
        x.owner(1450, 2029, 0);
        Check.is("isSound: with another owner", x.isSound(), true);
    }

    private static void changesNothingWhenItThrows() {
        Exlibristrail x = market();
        x.lot(0, 0, 8, 0, 0, 1, 2);
        x.lot(0, 0, 8, 0, 0, 1, 1);
        x.confirm(0, 0);
        x.mark(0, 1, 'p', 1900, 12);
        x.theft(0, 1, 1905);
        long before = x.checksum();
        Check.refuses("thrown: confirm", UNFIT, () -> x.confirm(1, 0));
        Check.refuses("thrown: theft", UNFIT, () -> x.theft(0, 0, 1800));
        Check.refuses("thrown: rebind", WRONG, () -> x.rebind(0, 2030));
        Check.refuses("thrown: mark", WRONG, () -> x.mark(0, 1, 'p', 1900, 31));
        Check.refuses("thrown: owner", WRONG, () -> x.owner(1450, 2029, 10));
        Check.refuses("thrown: heir", WRONG, () -> x.heir(1, 0));
        Check.refuses("thrown: lot", WRONG, () -> x.lot(0, 0, 8, 0, 0, 0, 1));
        Check.is("thrown: the chains are the same", x.checksum(), before);
        Check.is("thrown: no mark more", x.mark(0, 1, 'p', 1900, 1), 1);
        Check.is("thrown: no owner more", x.owner(2029, 2029, 0), 3);
        Check.is("thrown: no lot more", x.lot(0, 0, 8, 0, 0, 1, 1), 2);
        Check.is("thrown: the binding as before", x.rebind(0, 1700), 1700);
        Check.is("thrown: confirmed as before", x.reopen(0), 0);
        Check.refuses("thrown: nothing confirmed for the other lot", UNFIT, () -> x.reopen(1));
    }
}
