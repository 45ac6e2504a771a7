import java.util.Random;

/** Long runs of calls, right and wrong ones, against the plain trail: each answer and exception is the same. */
public final class FuzzTest {
    private static final int CALLS = 512;

    private interface Answer {
        Object ask();
    }

    private final Random random;
    private final Exlibristrail trail = new Exlibristrail();
    private final PlainTrail plain = new PlainTrail();
    private final int firstYear;
    private final int wrongShare;
    private int editions;
    private int copies;
    private int owners;
    private int marks;
    private int sales;
    private int lots;
    private String call;

    private FuzzTest(long seed) {
        random = new Random(seed);
        int[] begins = {1450, 1700, 1900, 1960, 1985};
        firstYear = begins[(int) (seed % begins.length)];
        wrongShare = seed % 3 == 0 ? 10 : 50;
    }

    public static void main(String[] args) {
        int runs = args.length > 0 ? Integer.parseInt(args[0]) : 150;
        for (int seed = 0; seed < runs; seed++) {
            FuzzTest fuzz = new FuzzTest(seed);
            for (int count = 0; count < CALLS; count++) {
                fuzz.step(seed, count);
            }
        }
        Check.close();
    }

    private void step(int seed, int count) {
        int kind = random.nextInt(100);
        Answer[] pair = count < 40 || kind < 30 ? tell() : kind < 55 ? change() : kind < 85 ? ask() : askShelves();
        String got = outcome(pair[0]);
        String want = outcome(pair[1]);
        Check.is("seed " + seed + ", call " + count + ", " + call, got, want);
        count();
    }

    private static String outcome(Answer answer) {
        try {
            return String.valueOf(answer.ask());
        } catch (RuntimeException e) {
            return Check.nameOf(e);
        }
    }

    private void count() {
        editions = plain.editions.size();
        copies = plain.copies.size();
        owners = plain.owners.size();
        marks = plain.marks.size();
        sales = plain.sales.size();
        lots = plain.lots.size();
    }

    // ---- Arguments, most of them right ----

    private boolean isWrong() {
        return random.nextInt(wrongShare) == 0;
    }

    private int odd() {
        int[] odds = {-1, -2, 10, 12, 40, 256, 1000, 1449, 2030, 10000, Integer.MAX_VALUE, Integer.MIN_VALUE, 0};
        return odds[random.nextInt(odds.length)];
    }

    private int number(int count) {
        return isWrong() || count == 0 ? (random.nextBoolean() ? count : odd()) : random.nextInt(count);
    }

    private int between(int least, int most) {
        return isWrong() ? (random.nextBoolean() ? least - 1 : random.nextBoolean() ? most + 1 : odd())
                : least + random.nextInt(most - least + 1);
    }

    private int year() {
        return between(firstYear, 2029);
    }

    private int yearOfOwner(int owner) {
        if (owner < 0 || owner >= owners || random.nextInt(4) == 0) {
            return year();
        }
        int[] one = plain.owners.get(owner);
        return between(one[0], one[1]);
    }

    private int format() {
        int[] formats = {2, 4, 8, 12};
        return isWrong() ? odd() : formats[random.nextInt(4)];
    }

    private Answer[] pair(String text, Answer one, Answer other) {
        call = text;
        return new Answer[] {one, other};
    }

    // ---- Calls ----

    private Answer[] tell() {
        int a = number(copies);
        int b = number(owners);
        int c = number(owners);
        int sale = number(sales);
        int year = year();
        int leaves = between(1, 3);
        int wounds = random.nextInt(3) == 0 ? between(0, 255) : between(0, 7);
        int format = format();
        int weight = between(1, random.nextBoolean() ? 30 : 6);
        int which = random.nextInt(14);
        if (which == 0 || editions == 0) {
            int printed = between(firstYear, 1999);
            return pair("edition(" + printed + ", " + format + ")", () -> trail.edition(printed, format),
                    () -> plain.edition(printed, format));
        }
        if (which < 3 || copies == 0) {
            int of = number(editions);
            return pair("copy(" + of + ", " + leaves + ", " + wounds + ")", () -> trail.copy(of, leaves, wounds),
                    () -> plain.copy(of, leaves, wounds));
        }
        if (which < 6 || owners == 0) {
            int to = random.nextInt(5) == 0 ? 2029 : Math.min(2029, year + random.nextInt(100));
            int place = between(0, 9);
            return pair("owner(" + year + ", " + to + ", " + place + ")", () -> trail.owner(year, to, place),
                    () -> plain.owner(year, to, place));
        }
        if (which < 9) {
            char kind = isWrong() ? (char) odd() : "sipa".charAt(random.nextInt(4));
            int when = yearOfOwner(b);
            return pair("mark(" + a + ", " + b + ", " + kind + ", " + when + ", " + weight + ")",
                    () -> trail.mark(a, b, kind, when, weight), () -> plain.mark(a, b, kind, when, weight));
        }
        if (which == 9 || sales == 0) {
            int when = yearOfOwner(b);
            return pair("sale(" + b + ", " + when + ")", () -> trail.sale(b, when), () -> plain.sale(b, when));
        }
        if (which == 10) {
            return pair("theft(" + a + ", " + b + ", " + year + ")", () -> trail.theft(a, b, year),
                    () -> plain.theft(a, b, year));
        }
        int told = random.nextBoolean() ? -1 : number(editions);
        int price = between(1, random.nextBoolean() ? 9999 : 2);
        return pair("lot(" + sale + ", " + told + ", " + format + ", " + leaves + ", " + wounds + ", " + price + ", "
                + c + ")", () -> trail.lot(sale, told, format, leaves, wounds, price, c),
                () -> plain.lot(sale, told, format, leaves, wounds, price, c));
    }

    private Answer[] change() {
        int a = number(copies);
        int b = number(owners);
        int c = number(owners);
        int m = number(marks);
        int l = number(lots);
        int year = year();
        boolean is = random.nextBoolean();
        switch (random.nextInt(10)) {
            case 0:
                return pair("heir(" + b + ", " + c + ")", () -> trail.heir(b, c), () -> plain.heir(b, c));
            case 1:
                char system = isWrong() ? 'x' : is ? 'f' : 'n';
                return pair("system(" + b + ", " + system + ")", () -> trail.system(b, system),
                        () -> plain.system(b, system));
            case 2:
                return pair("rebind(" + a + ", " + year + ")", () -> trail.rebind(a, year),
                        () -> plain.rebind(a, year));
            case 3:
                return pair("wash(" + m + ")", () -> trail.wash(m), () -> plain.wash(m));
            case 4:
                return pair("withdraw(" + m + ", " + is + ")", () -> trail.withdraw(m, is),
                        () -> plain.withdraw(m, is));
            case 5:
            case 6:
                return pair("confirm(" + l + ", " + a + ")", () -> trail.confirm(l, a), () -> plain.confirm(l, a));
            case 7:
                return pair("reopen(" + l + ")", () -> trail.reopen(l), () -> plain.reopen(l));
            case 8:
                int place = between(0, 9);
                int years = between(0, 200);
                return pair("limit(" + place + ", " + years + ")", () -> trail.limit(place, years),
                        () -> plain.limit(place, years));
            default:
                return pair("faith(" + b + ", " + is + ")", () -> trail.faith(b, is), () -> plain.faith(b, is));
        }
    }

    private Answer[] ask() {
        int a = number(copies);
        int d = number(copies);
        int m = number(marks);
        int l = number(lots);
        int year = year();
        int index = between(0, 4);
        switch (random.nextInt(19)) {
            case 0:
                return pair("likeness(" + a + ", " + d + ")", () -> trail.likeness(a, d), () -> plain.likeness(a, d));
            case 1:
                return pair("weight(" + m + ")", () -> trail.weight(m), () -> plain.weight(m));
            case 2:
                return pair("test(" + m + ")", () -> trail.test(m), () -> plain.test(m));
            case 3:
                return pair("lost(" + a + ")", () -> trail.lost(a), () -> plain.lost(a));
            case 4:
                return pair("score(" + l + ", " + a + ")", () -> trail.score(l, a), () -> plain.score(l, a));
            case 5:
                return pair("match(" + l + ")", () -> trail.match(l), () -> plain.match(l));
            case 6:
                return pair("dearest(" + a + ")", () -> trail.dearest(a), () -> plain.dearest(a));
            case 7:
            case 8:
                return pair("claim(" + a + ")", () -> trail.claim(a), () -> plain.claim(a));
            case 9:
                return pair("claimant(" + a + ")", () -> trail.claimant(a), () -> plain.claimant(a));
            case 10:
                return pair("holder(" + a + ", " + year + ")", () -> trail.holder(a, year),
                        () -> plain.holder(a, year));
            case 11:
                return pair("cost(" + a + ")", () -> trail.cost(a), () -> plain.cost(a));
            case 12:
                return pair("margin(" + a + ")", () -> trail.margin(a), () -> plain.margin(a));
            case 13:
                return pair("gaps(" + a + ")", () -> trail.gaps(a), () -> plain.gaps(a));
            case 14:
                return pair("stays(" + a + ")", () -> trail.stays(a), () -> plain.stays(a));
            case 15:
                return pair("stay(" + a + ", " + index + ")", () -> trail.stay(a, index), () -> plain.stay(a, index));
            case 16:
                return pair("from(" + a + ", " + index + ")", () -> trail.from(a, index), () -> plain.from(a, index));
            default:
                return pair("rests(" + a + ", " + m + ")", () -> trail.rests(a, m), () -> plain.rests(a, m));
        }
    }

    private Answer[] askShelves() {
        int a = number(copies);
        int b = number(owners);
        int year = random.nextBoolean() ? yearOfOwner(b) : year();
        int index = between(0, 2);
        switch (random.nextInt(8)) {
            case 0:
                return pair("shelf(" + b + ", " + year + ")", () -> trail.shelf(b, year), () -> plain.shelf(b, year));
            case 1:
                return pair("shelved(" + b + ", " + year + ", " + index + ")", () -> trail.shelved(b, year, index),
                        () -> plain.shelved(b, year, index));
            case 2:
                return pair("written(" + b + ", " + year + ", " + a + ")", () -> trail.written(b, year, a),
                        () -> plain.written(b, year, a));
            case 3:
                return pair("sign(" + b + ", " + year + ", " + a + ", " + index + ")",
                        () -> trail.sign(b, year, a, index), () -> plain.sign(b, year, a, index));
            case 4:
                return pair("checksum()", () -> trail.checksum(), () -> plain.checksum());
            case 5:
                return pair("knownShare()", () -> trail.knownShare(), () -> plain.knownShare());
            case 6:
                return pair("meanPrice()", () -> trail.meanPrice(), () -> plain.meanPrice());
            default:
                return pair("isSound()", () -> trail.isSound(), () -> plain.isSound());
        }
    }
}
