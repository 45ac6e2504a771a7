import java.util.ArrayList;
import java.util.Arrays;
import java.util.NoSuchElementException;

/**
 * A trail of where books have been: editions, copies, owners, marks, sales and thefts, and for each
 * copy the chain of owners that costs least.
 */
public final class Exlibristrail {
    private static final int FIRST_YEAR = 1450;
    private static final int LAST_EDITION_YEAR = 1999;
    private static final int LAST_YEAR = 2029;
    private static final int FIRST_DECADE = 145;
    private static final int NOW = 202;
    private static final int NOW_BEGINS = 2020;
    private static final int DECADES = 58;

    private static final int MOST_EDITIONS = 8;
    private static final int MOST_COPIES = 10;
    private static final int MOST_OWNERS = 12;
    private static final int MOST_MARKS = 40;
    private static final int MOST_SALES = 6;
    private static final int MOST_LOTS = 20;
    private static final int MOST_LOTS_OF_SALE = 5;

    private static final int LAST_PLACE = 9;
    private static final int PLACES = 10;
    private static final int FIRST_LIMIT = 30;
    private static final int MOST_LIMIT = 200;
    private static final int MOST_LEAVES = 999;
    private static final int MOST_WOUNDS = 255;
    private static final int WOUNDS = 8;
    private static final int MOST_WEIGHT = 30;
    private static final int MOST_PRICE = 9999;

    /** A chain's states are the numbers of owners and, behind them all, unknown. */
    private static final int UNKNOWN = 12;
    private static final int STATES = 13;
    private static final int NONE = -1;
    private static final int EVERY_STATE = (1 << STATES) - 1;

    private static final int SALE_WEIGHT = 15;
    private static final int THEFT_WEIGHT = 20;
    private static final int COST_OF_UNKNOWN = 5;
    private static final int COST_OF_UNTOLD = 2;
    private static final int COST_TO_OR_FROM_UNKNOWN = 3;
    private static final int COST_TO_HEIR = 1;
    private static final int COST_TO_OTHER = 4;
    /** More than any chain can cost, and small enough that sums with it do not wrap around. */
    private static final int NEVER = 1000000;

    private final ArrayList<Edition> editions = new ArrayList<>();
    private final ArrayList<Copy> copies = new ArrayList<>();
    private final ArrayList<Owner> owners = new ArrayList<>();
    private final ArrayList<Mark> marks = new ArrayList<>();
    private final ArrayList<Sale> sales = new ArrayList<>();
    private final ArrayList<Lot> lots = new ArrayList<>();
    private final int[] limits = new int[PLACES];
    private final Evidence evidence = new Evidence();
    private final ChainFinder finder = new ChainFinder(evidence);
    private final Chain otherwise = new Chain(NOW);
    private final Matcher matcher = new Matcher();
    private final StringBuilder shelfMark = new StringBuilder();

    public Exlibristrail() {
        Arrays.fill(limits, FIRST_LIMIT);
    }

    // ---- What is told ----

    public int edition(int year, int format) throws IllegalArgumentException, IllegalStateException {
        refuseOutside(year, FIRST_YEAR, LAST_EDITION_YEAR);
        refuseUnknownFormat(format);
        refuseFull(editions.size(), MOST_EDITIONS);
        editions.add(new Edition(year, format));
        return editions.size() - 1;
    }

    public int copy(int edition, int leaves, int wounds)
            throws IndexOutOfBoundsException, IllegalArgumentException, IllegalStateException {
        Edition of = knownEdition(edition);
        refuseOutside(leaves, 1, MOST_LEAVES);
        refuseOutside(wounds, 0, MOST_WOUNDS);
        refuseFull(copies.size(), MOST_COPIES);
        copies.add(new Copy(copies.size(), of, leaves, wounds));
        return copies.size() - 1;
    }

    public int owner(int from, int to, int place) throws IllegalArgumentException, IllegalStateException {
        refuseOutside(from, FIRST_YEAR, LAST_YEAR);
        refuseOutside(to, from, LAST_YEAR);
        refuseOutside(place, 0, LAST_PLACE);
        refuseFull(owners.size(), MOST_OWNERS);
        owners.add(new Owner(owners.size(), from, to, place));
        openAllChains();
        return owners.size() - 1;
    }

    public int heir(int owner, int heir) throws IndexOutOfBoundsException, IllegalArgumentException {
        Owner one = knownOwner(owner);
        Owner next = knownOwner(heir);
        if (one == next || next.lastYear < one.lastYear) {
            throw new IllegalArgumentException("no heir of that owner");
        }
        int before = numberOf(one.heir);
        one.heir = next;
        openAllChains();
        return before;
    }

    public char system(int owner, char system) throws IndexOutOfBoundsException, IllegalArgumentException {
        Owner one = knownOwner(owner);
        if (system != 'f' && system != 'n') {
            throw new IllegalArgumentException("no such system");
        }
        char before = one.system;
        one.system = system;
        return before;
    }

    public int rebind(int copy, int year) throws IndexOutOfBoundsException, IllegalArgumentException {
        Copy one = knownCopy(copy);
        refuseOutside(year, one.edition.year, LAST_YEAR);
        int before = one.boundIn;
        one.boundIn = year;
        one.chain.isOpen = true;
        return before;
    }

    public int likeness(int one, int other) throws IndexOutOfBoundsException {
        Copy first = knownCopy(one);
        Copy second = knownCopy(other);
        return WOUNDS - Integer.bitCount(first.wounds ^ second.wounds);
    }

    public int mark(int copy, int owner, char kind, int year, int weight)
            throws IndexOutOfBoundsException, IllegalArgumentException, IllegalStateException {
        Copy on = knownCopy(copy);
        Owner by = knownOwner(owner);
        if (kind != 's' && kind != 'i' && kind != 'p' && kind != 'a') {
            throw new IllegalArgumentException("no such kind");
        }
        refuseOutside(year, FIRST_YEAR, LAST_YEAR);
        refuseOutside(weight, 1, MOST_WEIGHT);
        refuseFull(marks.size(), MOST_MARKS);
        marks.add(new Mark(on, by, kind, year, weight));
        on.chain.isOpen = true;
        return marks.size() - 1;
    }

    public boolean wash(int mark) throws IndexOutOfBoundsException {
        Mark one = knownMark(mark);
        boolean before = one.isWashed;
        one.isWashed = true;
        one.copy.chain.isOpen = true;
        return before;
    }

    public boolean withdraw(int mark, boolean is) throws IndexOutOfBoundsException {
        Mark one = knownMark(mark);
        boolean before = one.isWithdrawn;
        one.isWithdrawn = is;
        one.copy.chain.isOpen = true;
        return before;
    }

    public int weight(int mark) throws IndexOutOfBoundsException {
        return knownMark(mark).weightNow();
    }

    public char test(int mark) throws IndexOutOfBoundsException {
        return knownMark(mark).flaw();
    }

    public int lost(int copy) throws IndexOutOfBoundsException {
        Copy one = knownCopy(copy);
        int count = 0;
        for (int number = 0; number < marks.size(); number++) {
            Mark mark = marks.get(number);
            if (mark.copy == one && mark.isWashed) {
                count++;
            }
        }
        return count;
    }

    // ---- Sales and their lots ----

    public int sale(int seller, int year)
            throws IndexOutOfBoundsException, IllegalArgumentException, IllegalStateException {
        Owner of = knownOwner(seller);
        refuseOutside(year, FIRST_YEAR, LAST_YEAR);
        refuseFull(sales.size(), MOST_SALES);
        sales.add(new Sale(of, year));
        return sales.size() - 1;
    }

    public int lot(int sale, int edition, int format, int leaves, int wounds, int price, int buyer)
            throws IndexOutOfBoundsException, IllegalArgumentException, IllegalStateException {
        Sale in = knownSale(sale);
        Edition told = edition == NONE ? null : knownEdition(edition);
        Owner to = knownOwner(buyer);
        refuseUnknownFormat(format);
        refuseOutside(leaves, 0, MOST_LEAVES);
        refuseOutside(wounds, 0, MOST_WOUNDS);
        refuseOutside(price, 1, MOST_PRICE);
        refuseFull(lots.size(), MOST_LOTS);
        refuseFull(in.lots.size(), MOST_LOTS_OF_SALE);
        Lot lot = new Lot(in, told, format, leaves, wounds, price, to);
        in.lots.add(lot);
        lots.add(lot);
        return lots.size() - 1;
    }

    public int score(int lot, int copy) throws IndexOutOfBoundsException {
        Lot one = knownLot(lot);
        return one.scoreOf(knownCopy(copy));
    }

    public int match(int lot) throws IndexOutOfBoundsException, NoSuchElementException {
        int copy = matcher.copyFor(knownLot(lot), copies);
        if (copy == NONE) {
            throw new NoSuchElementException("matched to none");
        }
        return copy;
    }

    public int confirm(int lot, int copy) throws IndexOutOfBoundsException, UnsupportedOperationException {
        Lot one = knownLot(lot);
        Copy to = knownCopy(copy);
        if (one.scoreOf(to) == 0 || one.isRivalledFor(to)) {
            throw new UnsupportedOperationException("the lot can't be that copy");
        }
        int before = numberOf(one.confirmed);
        openChainOf(one.confirmed);
        one.confirmed = to;
        openChainOf(to);
        return before;
    }

    public int reopen(int lot) throws IndexOutOfBoundsException, UnsupportedOperationException {
        Lot one = knownLot(lot);
        if (one.confirmed == null) {
            throw new UnsupportedOperationException("not confirmed");
        }
        int before = numberOf(one.confirmed);
        openChainOf(one.confirmed);
        one.confirmed = null;
        return before;
    }

    public int dearest(int copy) throws IndexOutOfBoundsException, NoSuchElementException {
        Copy one = knownCopy(copy);
        int dearest = NONE;
        int most = 0;
        for (int number = 0; number < lots.size(); number++) {
            Lot lot = lots.get(number);
            if (lot.confirmed == one && lot.price > most) {
                most = lot.price;
                dearest = number;
            }
        }
        if (dearest == NONE) {
            throw new NoSuchElementException("no lot is confirmed for the copy");
        }
        return dearest;
    }

    // ---- Thefts and claims ----

    public int theft(int copy, int owner, int year)
            throws IndexOutOfBoundsException, IllegalArgumentException, UnsupportedOperationException {
        Copy one = knownCopy(copy);
        Owner from = knownOwner(owner);
        refuseOutside(year, one.edition.year, LAST_YEAR);
        if (one.robbed != null) {
            throw new UnsupportedOperationException("stolen once already");
        }
        one.robbed = from;
        one.stolenIn = year;
        one.chain.isOpen = true;
        int count = 0;
        for (int number = 0; number < copies.size(); number++) {
            if (copies.get(number).robbed != null) {
                count++;
            }
        }
        return count;
    }

    public int limit(int place, int years) throws IllegalArgumentException {
        refuseOutside(place, 0, LAST_PLACE);
        refuseOutside(years, 0, MOST_LIMIT);
        int before = at(limits, place);
        put(limits, place, years);
        return before;
    }

    public boolean faith(int owner, boolean isGood) throws IndexOutOfBoundsException {
        Owner one = knownOwner(owner);
        boolean before = one.isInGoodFaith;
        one.isInGoodFaith = isGood;
        return before;
    }

    public char claim(int copy) throws IndexOutOfBoundsException, UnsupportedOperationException {
        Copy one = knownStolenCopy(copy);
        Owner claimant = lastHeirOf(one.robbed);
        Chain chain = chainOf(one);
        int state = chain.stateIn(NOW);
        if (claimant == null || state == claimant.number || state < 0 || state >= owners.size()) {
            return 'n';
        }
        Owner holder = owners.get(state);
        int began = chain.beginOf(chain.countStays() - 1) * 10;
        if (NOW_BEGINS - began <= at(limits, holder.place)) {
            return 'r';
        }
        return holder.isInGoodFaith ? 'k' : 's';
    }

    public int claimant(int copy)
            throws IndexOutOfBoundsException, UnsupportedOperationException, NoSuchElementException {
        Owner claimant = lastHeirOf(knownStolenCopy(copy).robbed);
        if (claimant == null) {
            throw new NoSuchElementException("no claimant");
        }
        return claimant.number;
    }

    // ---- Chains ----

    public int holder(int copy, int year)
            throws IndexOutOfBoundsException, IllegalArgumentException, NoSuchElementException {
        Copy one = knownCopy(copy);
        refuseOutside(year, FIRST_YEAR, LAST_YEAR);
        int state = chainOf(one).stateIn(year / 10);
        if (state == UNKNOWN) {
            throw new NoSuchElementException("nobody is known to have the copy");
        }
        return state;
    }

    public int cost(int copy) throws IndexOutOfBoundsException {
        return chainOf(knownCopy(copy)).cost;
    }

    public int margin(int copy) throws IndexOutOfBoundsException {
        return chainOf(knownCopy(copy)).margin;
    }

    public int gaps(int copy) throws IndexOutOfBoundsException {
        return chainOf(knownCopy(copy)).countGaps();
    }

    public int stays(int copy) throws IndexOutOfBoundsException {
        return chainOf(knownCopy(copy)).countStays();
    }

    public int stay(int copy, int index) throws IndexOutOfBoundsException, NoSuchElementException {
        Chain chain = chainOf(knownCopy(copy));
        return answerOf(chain.stateIn(knownBegin(chain, index)));
    }

    public int from(int copy, int index) throws IndexOutOfBoundsException, NoSuchElementException {
        Chain chain = chainOf(knownCopy(copy));
        return knownBegin(chain, index);
    }

    public boolean rests(int copy, int mark) throws IndexOutOfBoundsException {
        Copy one = knownCopy(copy);
        Mark without = knownMark(mark);
        if (without.copy != one || !without.tells()) {
            return false;
        }
        Chain chain = chainOf(one);
        gather(one, without);
        otherwise.first = chain.first;
        finder.find(otherwise);
        return !chain.isLike(otherwise);
    }

    // ---- Shelves ----

    public int shelf(int owner, int year) throws IndexOutOfBoundsException, IllegalArgumentException {
        Owner one = knownOwner(owner);
        int decade = decadeOfShelves(year);
        int count = 0;
        for (int number = 0; number < copies.size(); number++) {
            if (isShelved(copies.get(number), one, decade)) {
                count++;
            }
        }
        return count;
    }

    public int shelved(int owner, int year, int index)
            throws IndexOutOfBoundsException, IllegalArgumentException, NoSuchElementException {
        Owner one = knownOwner(owner);
        int decade = decadeOfShelves(year);
        for (int number = 0; number < copies.size(); number++) {
            Copy copy = copies.get(number);
            if (isShelved(copy, one, decade) && placeOf(copy, one, decade, false) - 1 == index) {
                return number;
            }
        }
        throw new NoSuchElementException("no such place on the shelf");
    }

    public int written(int owner, int year, int copy)
            throws IndexOutOfBoundsException, IllegalArgumentException, NoSuchElementException {
        Owner one = knownOwner(owner);
        Copy of = knownCopy(copy);
        writeShelfMark(of, one, decadeOfShelves(year));
        return shelfMark.length();
    }

    public char sign(int owner, int year, int copy, int place)
            throws IndexOutOfBoundsException, IllegalArgumentException, NoSuchElementException {
        Owner one = knownOwner(owner);
        Copy of = knownCopy(copy);
        writeShelfMark(of, one, decadeOfShelves(year));
        if (place < 0 || place >= shelfMark.length()) {
            throw new NoSuchElementException("no such sign");
        }
        return shelfMark.charAt(place);
    }

    // ---- Sums over all ----

    public long checksum() {
        long sum = 7;
        for (int number = 0; number < copies.size(); number++) {
            Chain chain = chainOf(copies.get(number));
            for (int decade = chain.first; decade <= NOW; decade++) {
                sum = 31 * sum + answerOf(chain.stateIn(decade));
            }
        }
        return sum;
    }

    public float knownShare() throws ArithmeticException {
        if (copies.size() == 0) {
            throw new ArithmeticException("no copies");
        }
        int known = 0;
        for (int number = 0; number < copies.size(); number++) {
            if (chainOf(copies.get(number)).countGaps() == 0) {
                known++;
            }
        }
        return (float) known / (float) copies.size();
    }

    public double meanPrice() throws ArithmeticException {
        if (lots.size() == 0) {
            throw new ArithmeticException("no lots");
        }
        int sum = 0;
        for (int number = 0; number < lots.size(); number++) {
            sum += lots.get(number).price;
        }
        return (double) sum / (double) lots.size();
    }

    public boolean isSound() {
        for (int number = 0; number < copies.size(); number++) {
            Copy copy = copies.get(number);
            Chain chain = chainOf(copy);
            gather(copy, null);
            if (!finder.bearsOut(chain)) {
                return false;
            }
        }
        return true;
    }

    // ---- Looking up, and refusing what is out of range ----

    private Edition knownEdition(int number) {
        if (number < 0 || number >= editions.size()) {
            throw new IndexOutOfBoundsException("no such edition");
        }
        return editions.get(number);
    }

    private Copy knownCopy(int number) {
        if (number < 0 || number >= copies.size()) {
            throw new IndexOutOfBoundsException("no such copy");
        }
        return copies.get(number);
    }

    private Copy knownStolenCopy(int number) {
        Copy copy = knownCopy(number);
        if (copy.robbed == null) {
            throw new UnsupportedOperationException("not stolen");
        }
        return copy;
    }

    private Owner knownOwner(int number) {
        if (number < 0 || number >= owners.size()) {
            throw new IndexOutOfBoundsException("no such owner");
        }
        return owners.get(number);
    }

    private Mark knownMark(int number) {
        if (number < 0 || number >= marks.size()) {
            throw new IndexOutOfBoundsException("no such mark");
        }
        return marks.get(number);
    }

    private Sale knownSale(int number) {
        if (number < 0 || number >= sales.size()) {
            throw new IndexOutOfBoundsException("no such sale");
        }
        return sales.get(number);
    }

    private Lot knownLot(int number) {
        if (number < 0 || number >= lots.size()) {
            throw new IndexOutOfBoundsException("no such lot");
        }
        return lots.get(number);
    }

    private static int knownBegin(Chain chain, int index) {
        int decade = chain.beginOf(index);
        if (decade == NONE) {
            throw new NoSuchElementException("no such stay");
        }
        return decade;
    }

    private static void refuseOutside(int number, int least, int most) {
        if (number < least || number > most) {
            throw new IllegalArgumentException("a number is out of range");
        }
    }

    private static void refuseUnknownFormat(int format) {
        if (format != 2 && format != 4 && format != 8 && format != 12) {
            throw new IllegalArgumentException("no such format");
        }
    }

    private static void refuseFull(int count, int most) {
        if (count >= most) {
            throw new IllegalStateException("no room for one more");
        }
    }

    private static int numberOf(Copy copy) {
        return copy == null ? NONE : copy.number;
    }

    private static int numberOf(Owner owner) {
        return owner == null ? NONE : owner.number;
    }

    private static int answerOf(int state) {
        return state == UNKNOWN ? NONE : state;
    }

    /** The machine must never throw: an index beside the row reads 0. */
    private static int at(int[] row, int index) {
        return index >= 0 && index < row.length ? row[index] : 0;
    }

    /** The machine must never throw: nothing is written beside the row. */
    private static void put(int[] row, int index, int value) {
        if (index >= 0 && index < row.length) {
            row[index] = value;
        }
    }

    // ---- Chains are found when they are asked for, and kept till something told opens them ----

    private void openAllChains() {
        for (int number = 0; number < copies.size(); number++) {
            openChainOf(copies.get(number));
        }
    }

    private static void openChainOf(Copy copy) {
        if (copy != null) {
            copy.chain.isOpen = true;
        }
    }

    /** Also finds the chains that are open, so that the shelves can be read off them. */
    private int decadeOfShelves(int year) {
        refuseOutside(year, FIRST_YEAR, LAST_YEAR);
        for (int number = 0; number < copies.size(); number++) {
            chainOf(copies.get(number));
        }
        return year / 10;
    }

    private Chain chainOf(Copy copy) {
        Chain chain = copy.chain;
        if (chain.isOpen) {
            gather(copy, null);
            finder.find(chain);
            chain.isOpen = false;
        }
        return chain;
    }

    private void gather(Copy copy, Mark without) {
        evidence.begin(copy.chain.first);
        for (int number = 0; number < owners.size(); number++) {
            evidence.admit(owners.get(number));
        }
        for (int number = 0; number < marks.size(); number++) {
            Mark mark = marks.get(number);
            if (mark.copy == copy && mark != without && mark.tells()) {
                evidence.tell(mark.year / 10, mark.owner, mark.weightNow());
            }
        }
        for (int number = 0; number < lots.size(); number++) {
            Lot lot = lots.get(number);
            if (lot.confirmed == copy) {
                evidence.tellSale(lot.sale.year / 10, lot.sale.seller, lot.buyer);
            }
        }
        if (copy.robbed != null) {
            evidence.tellTheft(copy.stolenIn / 10, copy.robbed);
        }
    }

    private Owner lastHeirOf(Owner owner) {
        Owner one = owner;
        // Whoever is not met within as many steps as there are owners is never met: the heirs lead round.
        for (int step = 0; step < owners.size() && one != null; step++) {
            if (one.lastYear == LAST_YEAR) {
                return one;
            }
            one = one.heir;
        }
        return null;
    }

    private static boolean isShelved(Copy copy, Owner owner, int decade) {
        return copy.chain.stateIn(decade) == owner.number;
    }

    private int placeOf(Copy copy, Owner owner, int decade, boolean isAmongFormat) {
        int place = 1;
        for (int number = 0; number < copies.size(); number++) {
            Copy other = copies.get(number);
            boolean counts = !isAmongFormat || other.edition.format == copy.edition.format;
            if (counts && other.standsAheadOf(copy) && isShelved(other, owner, decade)) {
                place++;
            }
        }
        return place;
    }

    private void writeShelfMark(Copy copy, Owner owner, int decade) {
        if (!isShelved(copy, owner, decade)) {
            throw new NoSuchElementException("the copy is not in the library");
        }
        boolean isByFormat = owner.system == 'f';
        int place = placeOf(copy, owner, decade, isByFormat);
        shelfMark.setLength(0);
        if (isByFormat) {
            shelfMark.append(copy.edition.letter());
        } else {
            shelfMark.append(place < 10 ? "00" : "0");
        }
        shelfMark.append(place);
    }

    // ---- What the trail is made of ----

    private static final class Edition {
        final int year;
        final int format;

        Edition(int year, int format) {
            this.year = year;
            this.format = format;
        }

        char letter() {
            if (format == 2) {
                return 'A';
            }
            if (format == 4) {
                return 'B';
            }
            return format == 8 ? 'C' : 'D';
        }
    }

    private static final class Copy {
        final int number;
        final Edition edition;
        final int leaves;
        final int wounds;
        final Chain chain;
        int boundIn;
        /** From whom it was stolen, null if it was not. */
        Owner robbed;
        int stolenIn;

        Copy(int number, Edition edition, int leaves, int wounds) {
            this.number = number;
            this.edition = edition;
            this.leaves = leaves;
            this.wounds = wounds;
            chain = new Chain(edition.year / 10);
            boundIn = edition.year;
        }

        boolean standsAheadOf(Copy other) {
            if (edition.format != other.edition.format) {
                return edition.format < other.edition.format;
            }
            return number < other.number;
        }
    }

    private static final class Owner {
        final int number;
        final int firstYear;
        final int lastYear;
        final int place;
        /** Null for none. */
        Owner heir;
        char system = 'f';
        boolean isInGoodFaith = true;

        Owner(int number, int firstYear, int lastYear, int place) {
            this.number = number;
            this.firstYear = firstYear;
            this.lastYear = lastYear;
            this.place = place;
        }

        boolean isThereIn(int decade) {
            return firstYear / 10 <= decade && decade <= lastYear / 10;
        }
    }

    private static final class Mark {
        final Copy copy;
        final Owner owner;
        final char kind;
        final int year;
        final int fullWeight;
        boolean isWashed;
        boolean isWithdrawn;

        Mark(Copy copy, Owner owner, char kind, int year, int fullWeight) {
            this.copy = copy;
            this.owner = owner;
            this.kind = kind;
            this.year = year;
            this.fullWeight = fullWeight;
        }

        int weightNow() {
            if (isWithdrawn) {
                return 0;
            }
            return isWashed ? fullWeight / 2 : fullWeight;
        }

        char flaw() {
            if (year < owner.firstYear) {
                return 'e';
            }
            if (year > owner.lastYear) {
                return 'l';
            }
            if (year < copy.edition.year) {
                return 'p';
            }
            boolean isOfBinding = kind == 'p' || kind == 'a';
            return isOfBinding && year < copy.boundIn ? 'b' : '-';
        }

        boolean tells() {
            return weightNow() > 0 && flaw() == '-';
        }
    }

    private static final class Sale {
        final Owner seller;
        final int year;
        final ArrayList<Lot> lots = new ArrayList<>();

        Sale(Owner seller, int year) {
            this.seller = seller;
            this.year = year;
        }
    }

    private static final class Lot {
        final Sale sale;
        /** Null if none is told. */
        final Edition edition;
        final int format;
        final int leaves;
        final int wounds;
        final int price;
        final Owner buyer;
        /** Null while the match is open. */
        Copy confirmed;

        Lot(Sale sale, Edition edition, int format, int leaves, int wounds, int price, Owner buyer) {
            this.sale = sale;
            this.edition = edition;
            this.format = format;
            this.leaves = leaves;
            this.wounds = wounds;
            this.price = price;
            this.buyer = buyer;
        }

        int scoreOf(Copy copy) {
            if (edition != null && edition != copy.edition || copy.edition.year > sale.year) {
                return 0;
            }
            int points = copy.edition.format == format ? 20 : 0;
            if (copy.leaves == leaves) {
                points += 10;
            }
            points += 5 * Integer.bitCount(wounds & copy.wounds);
            points -= 5 * Integer.bitCount(wounds & ~copy.wounds);
            return Math.max(0, points);
        }

        boolean isRivalledFor(Copy copy) {
            for (int index = 0; index < sale.lots.size(); index++) {
                Lot other = sale.lots.get(index);
                if (other != this && other.confirmed == copy) {
                    return true;
                }
            }
            return false;
        }
    }

    /**
     * Matches the lots of a sale to copies. Each match counts its score times RANKS, and the rank of
     * its copy as a digit of the lot, the first lot's being the highest: so one sum says which
     * matching scores most and, of several, which comes first, and its digits tell the copies.
     */
    private static final class Matcher {
        static final int RANK_BASE = 11;
        static final int RANKS = 11 * 11 * 11 * 11 * 11;

        /** The greatest sum that the lots of a set, given as bits, come to with the copies so far. */
        final int[] sums = new int[1 << MOST_LOTS_OF_SALE];
        final int[] gains = new int[MOST_LOTS_OF_SALE];

        int copyFor(Lot lot, ArrayList<Copy> copies) {
            ArrayList<Lot> lots = lot.sale.lots;
            Arrays.fill(sums, 0);
            for (int number = 0; number < copies.size(); number++) {
                weigh(copies.get(number), lots);
                offerToSets(lots.size());
            }
            int digits = at(sums, (1 << lots.size()) - 1) % RANKS;
            for (int index = lots.size() - 1; index >= 0 && lots.get(index) != lot; index--) {
                digits /= RANK_BASE;
            }
            int rank = digits % RANK_BASE;
            return rank == 0 ? NONE : MOST_COPIES - rank;
        }

        private void weigh(Copy copy, ArrayList<Lot> lots) {
            int digit = 1;
            for (int index = lots.size() - 1; index >= 0; index--) {
                int points = lots.get(index).scoreOf(copy);
                put(gains, index, points == 0 ? 0 : points * RANKS + (MOST_COPIES - copy.number) * digit);
                digit *= RANK_BASE;
            }
        }

        private void offerToSets(int lotCount) {
            // Greater sets first: the smaller ones that they look at must not have the copy yet.
            for (int set = (1 << lotCount) - 1; set > 0; set--) {
                int most = at(sums, set);
                for (int index = 0; index < lotCount; index++) {
                    int gain = at(gains, index);
                    if ((set >> index & 1) != 0 && gain > 0) {
                        most = Math.max(most, at(sums, set ^ 1 << index) + gain);
                    }
                }
                put(sums, set, most);
            }
        }
    }

    /** With whom a copy is, decade by decade, from that of its edition on. */
    private static final class Chain {
        int first;
        final int[] states = new int[DECADES];
        int cost;
        int margin;
        /** Whether something was told since the chain was found. */
        boolean isOpen = true;

        Chain(int first) {
            this.first = first;
        }

        int stateIn(int decade) {
            return decade < first || decade > NOW ? UNKNOWN : at(states, decade - FIRST_DECADE);
        }

        void set(int decade, int state) {
            put(states, decade - FIRST_DECADE, state);
        }

        boolean isBegin(int decade) {
            return decade == first || stateIn(decade) != stateIn(decade - 1);
        }

        int countStays() {
            int count = 0;
            for (int decade = first; decade <= NOW; decade++) {
                if (isBegin(decade)) {
                    count++;
                }
            }
            return count;
        }

        /** The first decade of a stay, or NONE. */
        int beginOf(int index) {
            int count = 0;
            for (int decade = first; decade <= NOW; decade++) {
                if (isBegin(decade)) {
                    if (count == index) {
                        return decade;
                    }
                    count++;
                }
            }
            return NONE;
        }

        int countGaps() {
            int count = 0;
            for (int decade = first; decade <= NOW; decade++) {
                if (stateIn(decade) == UNKNOWN) {
                    count++;
                }
            }
            return count;
        }

        boolean isLike(Chain other) {
            for (int decade = first; decade <= NOW; decade++) {
                if (stateIn(decade) != other.stateIn(decade)) {
                    return false;
                }
            }
            return true;
        }
    }

    /** What tells of one copy, and so what each decade and each move of a chain costs. */
    private static final class Evidence {
        int first;
        /** By decade and state, the weight of what tells for the owner. */
        final int[] weights = new int[DECADES * STATES];
        /** By decade, the weight of all that tells. */
        final int[] totals = new int[DECADES];
        /** By decade, the states in which a copy can be, as bits. */
        final int[] there = new int[DECADES];
        /** By decade and state, the states to which the copy moves for nothing as the decade begins, as bits. */
        final int[] freeMoves = new int[DECADES * STATES];
        final int[] heirs = new int[STATES];

        void begin(int firstDecade) {
            first = firstDecade;
            Arrays.fill(weights, 0);
            Arrays.fill(totals, 0);
            Arrays.fill(there, 1 << UNKNOWN);
            Arrays.fill(freeMoves, 0);
            Arrays.fill(heirs, NONE);
        }

        void admit(Owner owner) {
            put(heirs, owner.number, numberOf(owner.heir));
            for (int decade = first; decade <= NOW; decade++) {
                if (owner.isThereIn(decade)) {
                    int row = decade - FIRST_DECADE;
                    put(there, row, at(there, row) | 1 << owner.number);
                }
            }
        }

        void tell(int decade, Owner owner, int weight) {
            int cell = cellOf(decade, owner.number);
            put(weights, cell, at(weights, cell) + weight);
            put(totals, decade - FIRST_DECADE, at(totals, decade - FIRST_DECADE) + weight);
        }

        void tellSale(int decade, Owner seller, Owner buyer) {
            if (decade > first) {
                tell(decade - 1, seller, SALE_WEIGHT);
            }
            tell(decade, buyer, SALE_WEIGHT);
            free(decade, seller, 1 << buyer.number);
        }

        void tellTheft(int decade, Owner robbed) {
            tell(decade, robbed, THEFT_WEIGHT);
            free(decade + 1, robbed, EVERY_STATE);
        }

        private void free(int decade, Owner before, int states) {
            int cell = cellOf(decade, before.number);
            put(freeMoves, cell, at(freeMoves, cell) | states);
        }

        boolean isThere(int decade, int state) {
            return (at(there, decade - FIRST_DECADE) >> state & 1) != 0;
        }

        int costIn(int decade, int state) {
            int weight = at(weights, cellOf(decade, state));
            int unmet = at(totals, decade - FIRST_DECADE) - weight;
            if (state == UNKNOWN) {
                return unmet + COST_OF_UNKNOWN;
            }
            return weight > 0 ? unmet : unmet + COST_OF_UNTOLD;
        }

        /** What it costs to come from one state to another as the decade begins. */
        int costOfMove(int decade, int before, int state) {
            boolean isWithin = decade > first && decade <= NOW;
            if (!isWithin || before == state || (at(freeMoves, cellOf(decade, before)) >> state & 1) != 0) {
                return 0;
            }
            if (before == UNKNOWN || state == UNKNOWN) {
                return COST_TO_OR_FROM_UNKNOWN;
            }
            return at(heirs, before) == state ? COST_TO_HEIR : COST_TO_OTHER;
        }

        static int cellOf(int decade, int state) {
            return (decade - FIRST_DECADE) * STATES + state;
        }
    }

    /** Finds the chain that costs least by the evidence, and tests one. */
    private static final class ChainFinder {
        final Evidence evidence;
        /** By decade and state, the least cost from that decade on, if the copy is in that state then. */
        final int[] tails = new int[DECADES * STATES];

        ChainFinder(Evidence evidence) {
            this.evidence = evidence;
        }

        void find(Chain chain) {
            for (int decade = NOW; decade >= chain.first; decade--) {
                for (int state = 0; state < STATES; state++) {
                    put(tails, Evidence.cellOf(decade, state), tailOf(decade, state));
                }
            }
            walk(chain);
        }

        private int tailOf(int decade, int state) {
            if (!evidence.isThere(decade, state)) {
                return NEVER;
            }
            int onward = decade == NOW ? 0 : NEVER;
            for (int next = 0; next < STATES && decade < NOW; next++) {
                int tail = at(tails, Evidence.cellOf(decade + 1, next));
                if (tail < onward) {
                    onward = Math.min(onward, tail + evidence.costOfMove(decade + 1, state, next));
                }
            }
            return evidence.costIn(decade, state) + onward;
        }

        /**
         * Takes the first state, decade by decade, that still leads to the least cost. Each state that
         * is passed over begins the least of the other chains that part from this one just there.
         */
        private void walk(Chain chain) {
            int spent = 0;
            int leastOther = NEVER;
            int before = UNKNOWN;
            for (int decade = chain.first; decade <= NOW; decade++) {
                int taken = UNKNOWN;
                int least = NEVER;
                for (int state = 0; state < STATES; state++) {
                    int tail = at(tails, Evidence.cellOf(decade, state));
                    int whole = Math.min(NEVER, spent + evidence.costOfMove(decade, before, state) + tail);
                    leastOther = Math.min(leastOther, Math.max(whole, least));
                    if (whole < least) {
                        least = whole;
                        taken = state;
                    }
                }
                chain.set(decade, taken);
                spent += evidence.costOfMove(decade, before, taken) + evidence.costIn(decade, taken);
                before = taken;
            }
            chain.cost = spent;
            chain.margin = leastOther == NEVER ? NONE : leastOther - spent;
        }

        boolean bearsOut(Chain chain) {
            int sum = 0;
            for (int decade = chain.first; decade <= NOW; decade++) {
                int state = chain.stateIn(decade);
                if (!evidence.isThere(decade, state)) {
                    return false;
                }
                sum += evidence.costIn(decade, state);
                sum += evidence.costOfMove(decade, chain.stateIn(decade - 1), state);
                int here = costAround(chain, decade, state);
                for (int other = 0; other < STATES; other++) {
                    if (evidence.isThere(decade, other) && costAround(chain, decade, other) < here) {
                        return false;
                    }
                }
            }
            return sum == chain.cost;
        }

        private int costAround(Chain chain, int decade, int state) {
            return evidence.costOfMove(decade, chain.stateIn(decade - 1), state)
                    + evidence.costIn(decade, state)
                    + evidence.costOfMove(decade + 1, state, chain.stateIn(decade + 1));
        }
    }
}
