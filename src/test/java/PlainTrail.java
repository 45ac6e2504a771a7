import java.util.ArrayList;
import java.util.Arrays;
import java.util.List;
import java.util.NoSuchElementException;

/**
 * The document once more, written apart from the program and as slowly as it likes: chains are
 * listed whole, or kept two best a state with their paths, and matchings are all tried.
 */
final class PlainTrail {
    private static final int NOBODY = 99;

    final List<int[]> editions = new ArrayList<>();  // year, format
    final List<int[]> copies = new ArrayList<>();    // edition, leaves, wounds, bound
    final List<int[]> owners = new ArrayList<>();    // from, to, place, heir, system, good
    final List<int[]> marks = new ArrayList<>();     // copy, owner, kind, year, weight, washed, withdrawn
    final List<int[]> sales = new ArrayList<>();     // seller, year
    final List<int[]> lots = new ArrayList<>();      // sale, edition, format, leaves, wounds, price, buyer, confirmed
    final int[][] thefts = new int[10][];            // owner, year
    final int[] limits = new int[10];
    private final List<Paths> cache = new ArrayList<>();

    /** The best path, and what the next best costs, -1 if there is none. */
    private static final class Paths {
        int[] best;
        int cost;
        int next = -1;
    }

    PlainTrail() {
        Arrays.fill(limits, 30);
    }

    private static void index(boolean isKnown) {
        if (!isKnown) {
            throw new IndexOutOfBoundsException();
        }
    }

    private static void argument(boolean isRight) {
        if (!isRight) {
            throw new IllegalArgumentException();
        }
    }

    private static void state(boolean isRight) {
        if (!isRight) {
            throw new IllegalStateException();
        }
    }

    private static void operation(boolean isRight) {
        if (!isRight) {
            throw new UnsupportedOperationException();
        }
    }

    private static void element(boolean isThere) {
        if (!isThere) {
            throw new NoSuchElementException();
        }
    }

    private static boolean in(int number, List<int[]> list) {
        return number >= 0 && number < list.size();
    }

    private static boolean isYear(int year) {
        return year >= 1450 && year <= 2029;
    }

    private static boolean isFormat(int format) {
        return format == 2 || format == 4 || format == 8 || format == 12;
    }

    int edition(int year, int format) {
        argument(year >= 1450 && year <= 1999 && isFormat(format));
        state(editions.size() < 8);
        editions.add(new int[] {year, format});
        return editions.size() - 1;
    }

    int copy(int edition, int leaves, int wounds) {
        index(in(edition, editions));
        argument(leaves >= 1 && leaves <= 999 && wounds >= 0 && wounds <= 255);
        state(copies.size() < 10);
        copies.add(new int[] {edition, leaves, wounds, editions.get(edition)[0]});
        cache.clear();
        return copies.size() - 1;
    }

    int owner(int from, int to, int place) {
        argument(isYear(from) && to >= from && to <= 2029 && place >= 0 && place <= 9);
        state(owners.size() < 12);
        owners.add(new int[] {from, to, place, -1, 'f', 1});
        cache.clear();
        return owners.size() - 1;
    }

    int heir(int owner, int heir) {
        index(in(owner, owners) && in(heir, owners));
        argument(owner != heir && owners.get(heir)[1] >= owners.get(owner)[1]);
        int before = owners.get(owner)[3];
        owners.get(owner)[3] = heir;
        cache.clear();
        return before;
    }

    char system(int owner, char system) {
        index(in(owner, owners));
        argument(system == 'f' || system == 'n');
        char before = (char) owners.get(owner)[4];
        owners.get(owner)[4] = system;
        return before;
    }

    int rebind(int copy, int year) {
        index(in(copy, copies));
        argument(year >= yearOfCopy(copy) && year <= 2029);
        int before = copies.get(copy)[3];
        copies.get(copy)[3] = year;
        cache.clear();
        return before;
    }

    int likeness(int one, int other) {
        index(in(one, copies) && in(other, copies));
        int like = 0;
        for (int bit = 0; bit < 8; bit++) {
            if ((copies.get(one)[2] >> bit) % 2 == (copies.get(other)[2] >> bit) % 2) {
                like++;
            }
        }
        return like;
    }

    int mark(int copy, int owner, char kind, int year, int weight) {
        index(in(copy, copies) && in(owner, owners));
        argument("sipa".indexOf(kind) >= 0 && isYear(year) && weight >= 1 && weight <= 30);
        state(marks.size() < 40);
        marks.add(new int[] {copy, owner, kind, year, weight, 0, 0});
        cache.clear();
        return marks.size() - 1;
    }

    boolean wash(int mark) {
        index(in(mark, marks));
        boolean before = marks.get(mark)[5] == 1;
        marks.get(mark)[5] = 1;
        cache.clear();
        return before;
    }

    boolean withdraw(int mark, boolean is) {
        index(in(mark, marks));
        boolean before = marks.get(mark)[6] == 1;
        marks.get(mark)[6] = is ? 1 : 0;
        cache.clear();
        return before;
    }

    int weight(int mark) {
        index(in(mark, marks));
        int[] m = marks.get(mark);
        return m[6] == 1 ? 0 : m[5] == 1 ? m[4] / 2 : m[4];
    }

    char test(int mark) {
        index(in(mark, marks));
        int[] m = marks.get(mark);
        if (m[3] < owners.get(m[1])[0]) {
            return 'e';
        }
        if (m[3] > owners.get(m[1])[1]) {
            return 'l';
        }
        if (m[3] < yearOfCopy(m[0])) {
            return 'p';
        }
        return (m[2] == 'p' || m[2] == 'a') && m[3] < copies.get(m[0])[3] ? 'b' : '-';
    }

    int lost(int copy) {
        index(in(copy, copies));
        return (int) marks.stream().filter(m -> m[0] == copy && m[5] == 1).count();
    }

    int sale(int seller, int year) {
        index(in(seller, owners));
        argument(isYear(year));
        state(sales.size() < 6);
        sales.add(new int[] {seller, year});
        return sales.size() - 1;
    }

    int lot(int sale, int edition, int format, int leaves, int wounds, int price, int buyer) {
        index(in(sale, sales) && (edition == -1 || in(edition, editions)) && in(buyer, owners));
        argument(isFormat(format) && leaves >= 0 && leaves <= 999 && wounds >= 0 && wounds <= 255
                && price >= 1 && price <= 9999);
        state(lots.size() < 20 && lotsOf(sale).size() < 5);
        lots.add(new int[] {sale, edition, format, leaves, wounds, price, buyer, -1});
        return lots.size() - 1;
    }

    int score(int lot, int copy) {
        index(in(lot, lots) && in(copy, copies));
        int[] l = lots.get(lot);
        int[] c = copies.get(copy);
        if (l[1] != -1 && l[1] != c[0] || yearOfCopy(copy) > sales.get(l[0])[1]) {
            return 0;
        }
        int score = (editions.get(c[0])[1] == l[2] ? 20 : 0) + (c[1] == l[3] ? 10 : 0);
        for (int bit = 1; bit < 256; bit *= 2) {
            if ((l[4] & bit) != 0) {
                score += (c[2] & bit) != 0 ? 5 : -5;
            }
        }
        return score < 0 ? 0 : score;
    }

    int match(int lot) {
        index(in(lot, lots));
        List<Integer> all = lotsOf(lots.get(lot)[0]);
        int[] best = new int[all.size()];
        int[] most = {-1};
        tryAll(all, 0, new int[all.size()], 0, best, most);
        int copy = best[all.indexOf(lot)];
        element(copy != NOBODY);
        return copy;
    }

    private void tryAll(List<Integer> all, int at, int[] now, int sum, int[] best, int[] most) {
        if (at == all.size()) {
            if (sum > most[0]) {
                most[0] = sum;
                System.arraycopy(now, 0, best, 0, now.length);
            }
            return;
        }
        for (int copy = 0; copy < copies.size(); copy++) {
            int score = score(all.get(at), copy);
            boolean isFree = true;
            for (int before = 0; before < at; before++) {
                isFree &= now[before] != copy;
            }
            if (score > 0 && isFree) {
                now[at] = copy;
                tryAll(all, at + 1, now, sum + score, best, most);
            }
        }
        now[at] = NOBODY;
        tryAll(all, at + 1, now, sum, best, most);
    }

    int confirm(int lot, int copy) {
        index(in(lot, lots) && in(copy, copies));
        boolean isFree = true;
        for (int other : lotsOf(lots.get(lot)[0])) {
            isFree &= other == lot || lots.get(other)[7] != copy;
        }
        operation(score(lot, copy) > 0 && isFree);
        int before = lots.get(lot)[7];
        lots.get(lot)[7] = copy;
        cache.clear();
        return before;
    }

    int reopen(int lot) {
        index(in(lot, lots));
        int before = lots.get(lot)[7];
        operation(before != -1);
        lots.get(lot)[7] = -1;
        cache.clear();
        return before;
    }

    int dearest(int copy) {
        index(in(copy, copies));
        int best = -1;
        for (int lot = lots.size() - 1; lot >= 0; lot--) {
            if (lots.get(lot)[7] == copy && (best == -1 || lots.get(lot)[5] >= lots.get(best)[5])) {
                best = lot;
            }
        }
        element(best != -1);
        return best;
    }

    int theft(int copy, int owner, int year) {
        index(in(copy, copies) && in(owner, owners));
        argument(isYear(year) && year >= yearOfCopy(copy));
        operation(thefts[copy] == null);
        thefts[copy] = new int[] {owner, year};
        cache.clear();
        return (int) Arrays.stream(thefts).filter(t -> t != null).count();
    }

    int limit(int place, int years) {
        argument(place >= 0 && place <= 9 && years >= 0 && years <= 200);
        int before = limits[place];
        limits[place] = years;
        return before;
    }

    boolean faith(int owner, boolean isGood) {
        index(in(owner, owners));
        boolean before = owners.get(owner)[5] == 1;
        owners.get(owner)[5] = isGood ? 1 : 0;
        return before;
    }

    private int claimantOrNone(int copy) {
        int one = thefts[copy][0];
        List<Integer> met = new ArrayList<>();
        while (one != -1 && owners.get(one)[1] != 2029 && !met.contains(one)) {
            met.add(one);
            one = owners.get(one)[3];
        }
        return one != -1 && owners.get(one)[1] == 2029 ? one : -1;
    }

    char claim(int copy) {
        index(in(copy, copies));
        operation(thefts[copy] != null);
        int[] path = paths(copy).best;
        int holder = path[path.length - 1];
        int claimant = claimantOrNone(copy);
        if (claimant == -1 || holder == NOBODY || holder == claimant) {
            return 'n';
        }
        int began = 202;
        for (int at = path.length - 2; at >= 0 && path[at] == holder; at--) {
            began--;
        }
        if (2020 - began * 10 <= limits[owners.get(holder)[2]]) {
            return 'r';
        }
        return owners.get(holder)[5] == 0 ? 's' : 'k';
    }

    int claimant(int copy) {
        index(in(copy, copies));
        operation(thefts[copy] != null);
        int one = claimantOrNone(copy);
        element(one != -1);
        return one;
    }

    int holder(int copy, int year) {
        index(in(copy, copies));
        argument(isYear(year));
        int at = year / 10 - yearOfCopy(copy) / 10;
        element(at >= 0);
        int holder = paths(copy).best[at];
        element(holder != NOBODY);
        return holder;
    }

    int cost(int copy) {
        index(in(copy, copies));
        return paths(copy).cost;
    }

    int margin(int copy) {
        index(in(copy, copies));
        Paths paths = paths(copy);
        return paths.next == -1 ? -1 : paths.next - paths.cost;
    }

    int gaps(int copy) {
        index(in(copy, copies));
        return (int) Arrays.stream(paths(copy).best).filter(s -> s == NOBODY).count();
    }

    private List<int[]> listStays(int copy) {
        List<int[]> list = new ArrayList<>();
        int[] path = paths(copy).best;
        int last = -2;
        for (int at = 0; at < path.length; at++) {
            if (path[at] != last) {
                list.add(new int[] {path[at] == NOBODY ? -1 : path[at], yearOfCopy(copy) / 10 + at});
            }
            last = path[at];
        }
        return list;
    }

    int stays(int copy) {
        index(in(copy, copies));
        return listStays(copy).size();
    }

    int stay(int copy, int index) {
        index(in(copy, copies));
        element(in(index, listStays(copy)));
        return listStays(copy).get(index)[0];
    }

    int from(int copy, int index) {
        index(in(copy, copies));
        element(in(index, listStays(copy)));
        return listStays(copy).get(index)[1];
    }

    boolean rests(int copy, int mark) {
        index(in(copy, copies) && in(mark, marks));
        int[] before = find(copy).best;
        int was = marks.get(mark)[6];
        marks.get(mark)[6] = 1;
        int[] behind = find(copy).best;
        marks.get(mark)[6] = was;
        return !Arrays.equals(before, behind);
    }

    private List<Integer> library(int owner, int year) {
        List<Integer> list = new ArrayList<>();
        for (int format : new int[] {2, 4, 8, 12}) {
            for (int copy = 0; copy < copies.size(); copy++) {
                int at = year / 10 - yearOfCopy(copy) / 10;
                if (formatOf(copy) == format && at >= 0 && paths(copy).best[at] == owner) {
                    list.add(copy);
                }
            }
        }
        return list;
    }

    int shelf(int owner, int year) {
        index(in(owner, owners));
        argument(isYear(year));
        return library(owner, year).size();
    }

    int shelved(int owner, int year, int index) {
        index(in(owner, owners));
        argument(isYear(year));
        List<Integer> list = library(owner, year);
        element(index >= 0 && index < list.size());
        return list.get(index);
    }

    private String shelfMark(int owner, int year, int copy) {
        index(in(owner, owners) && in(copy, copies));
        argument(isYear(year));
        List<Integer> list = library(owner, year);
        element(list.contains(copy));
        if (owners.get(owner)[4] == 'n') {
            return String.format("%03d", list.indexOf(copy) + 1);
        }
        list.removeIf(other -> formatOf(other) != formatOf(copy));
        String letter = "?A?B???C???D".substring(formatOf(copy) - 1, formatOf(copy));
        return letter + (list.indexOf(copy) + 1);
    }

    int written(int owner, int year, int copy) {
        return shelfMark(owner, year, copy).length();
    }

    char sign(int owner, int year, int copy, int place) {
        String text = shelfMark(owner, year, copy);
        element(place >= 0 && place < text.length());
        return text.charAt(place);
    }

    long checksum() {
        long sum = 7;
        for (int copy = 0; copy < copies.size(); copy++) {
            for (int one : paths(copy).best) {
                sum = sum * 31 + (one == NOBODY ? -1 : one);
            }
        }
        return sum;
    }

    float knownShare() {
        if (copies.isEmpty()) {
            throw new ArithmeticException();
        }
        int known = 0;
        for (int copy = 0; copy < copies.size(); copy++) {
            known += gaps(copy) == 0 ? 1 : 0;
        }
        return (float) known / (float) copies.size();
    }

    double meanPrice() {
        if (lots.isEmpty()) {
            throw new ArithmeticException();
        }
        return (double) lots.stream().mapToInt(l -> l[5]).sum() / (double) lots.size();
    }

    boolean isSound() {
        return true;
    }

    // ---- Parts ----

    private int yearOfCopy(int copy) {
        return editions.get(copies.get(copy)[0])[0];
    }

    private int formatOf(int copy) {
        return editions.get(copies.get(copy)[0])[1];
    }

    private List<Integer> lotsOf(int sale) {
        List<Integer> list = new ArrayList<>();
        for (int lot = 0; lot < lots.size(); lot++) {
            if (lots.get(lot)[0] == sale) {
                list.add(lot);
            }
        }
        return list;
    }

    private int costOfDecade(int copy, int decade, int state) {
        int sum = 0;
        boolean isTold = false;
        List<int[]> told = new ArrayList<>();
        for (int mark = 0; mark < marks.size(); mark++) {
            int[] m = marks.get(mark);
            if (m[0] == copy && m[3] / 10 == decade && weight(mark) > 0 && test(mark) == '-') {
                told.add(new int[] {m[1], weight(mark)});
            }
        }
        for (int[] l : lots) {
            if (l[7] == copy && sales.get(l[0])[1] / 10 == decade) {
                told.add(new int[] {l[6], 15});
            }
            if (l[7] == copy && sales.get(l[0])[1] / 10 - 1 == decade) {
                told.add(new int[] {sales.get(l[0])[0], 15});
            }
        }
        if (thefts[copy] != null && thefts[copy][1] / 10 == decade) {
            told.add(new int[] {thefts[copy][0], 20});
        }
        for (int[] one : told) {
            if (one[0] == state) {
                isTold = true;
            } else {
                sum += one[1];
            }
        }
        return sum + (state == NOBODY ? 5 : isTold ? 0 : 2);
    }

    private int costOfMove(int copy, int decade, int before, int state) {
        int least = before == state ? 0 : before == NOBODY || state == NOBODY ? 3 : 4;
        if (before != NOBODY && state != NOBODY && owners.get(before)[3] == state) {
            least = Math.min(least, 1);
        }
        for (int[] l : lots) {
            int[] sale = sales.get(l[0]);
            if (l[7] == copy && sale[1] / 10 == decade && sale[0] == before && l[6] == state) {
                least = 0;
            }
        }
        if (thefts[copy] != null && thefts[copy][1] / 10 + 1 == decade && thefts[copy][0] == before) {
            least = 0;
        }
        return least;
    }

    private int[] statesIn(int decade) {
        List<Integer> list = new ArrayList<>();
        for (int owner = 0; owner < owners.size(); owner++) {
            int[] o = owners.get(owner);
            if (o[0] <= decade * 10 + 9 && o[1] >= decade * 10) {
                list.add(owner);
            }
        }
        list.add(NOBODY);
        return list.stream().mapToInt(i -> i).toArray();
    }

    private Paths paths(int copy) {
        while (cache.size() < copies.size()) {
            cache.add(null);
        }
        if (cache.get(copy) == null) {
            cache.set(copy, find(copy));
        }
        return cache.get(copy);
    }

    private Paths find(int copy) {
        int first = yearOfCopy(copy) / 10;
        double ways = 1;
        for (int decade = first; decade <= 202; decade++) {
            ways *= statesIn(decade).length;
        }
        return ways <= 1500 ? listAll(copy, first) : keepTwoBest(copy, first);
    }

    private Paths listAll(int copy, int first) {
        Paths paths = new Paths();
        paths.cost = Integer.MAX_VALUE;
        list(copy, first, first, new int[203 - first], 0, paths);
        return paths;
    }

    private void list(int copy, int first, int decade, int[] path, int sum, Paths paths) {
        if (decade > 202) {
            if (sum < paths.cost) {
                paths.next = paths.best == null ? -1 : paths.cost;
                paths.cost = sum;
                paths.best = path.clone();
            } else if (paths.next == -1 || sum < paths.next) {
                paths.next = sum;
            }
            return;
        }
        for (int state : statesIn(decade)) {
            path[decade - first] = state;
            int move = decade == first ? 0 : costOfMove(copy, decade, path[decade - first - 1], state);
            list(copy, first, decade + 1, path, sum + move + costOfDecade(copy, decade, state), paths);
        }
    }

    /** Rows of a cost and, behind it, the path so far; of each last state the two first are kept. */
    private Paths keepTwoBest(int copy, int first) {
        List<int[]> kept = new ArrayList<>();
        kept.add(new int[] {0});
        for (int decade = first; decade <= 202; decade++) {
            List<int[]> next = new ArrayList<>();
            for (int state : statesIn(decade)) {
                int here = costOfDecade(copy, decade, state);
                List<int[]> ways = new ArrayList<>();
                for (int[] row : kept) {
                    int move = decade == first ? 0 : costOfMove(copy, decade, row[row.length - 1], state);
                    int[] longer = Arrays.copyOf(row, row.length + 1);
                    longer[0] += move + here;
                    longer[row.length] = state;
                    ways.add(longer);
                }
                ways.sort(Arrays::compare);
                next.addAll(ways.subList(0, Math.min(2, ways.size())));
            }
            kept = next;
        }
        kept.sort(Arrays::compare);
        Paths paths = new Paths();
        paths.cost = kept.get(0)[0];
        paths.best = Arrays.copyOfRange(kept.get(0), 1, kept.get(0).length);
        paths.next = kept.size() > 1 ? kept.get(1)[0] : -1;
        return paths;
    }
}
