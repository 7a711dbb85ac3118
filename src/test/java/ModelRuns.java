/**
 * Long runs of calls, the same ones each time, put to the program and to the Model side by side; what
 * one answers or throws, the other must, too. Most calls fit the house, some are wrong on purpose.
 */
public final class ModelRuns {
    private static final int RUNS = 1500;
    private static final int CALLS = 512;
    private static final Checks C = new Checks();
    private static final String[] WORDS = {"lift", "seal", "void", "lif", "lifted", "x"};

    private final Nomdeplume house = new Nomdeplume();
    private final Model model = new Model();
    private long seed;
    /** How often out of 64 an argument is taken from beyond what fits. */
    private final int wrongs;
    private int persons;
    private int names;
    private int works;
    private String pending = "";
    private String call = "";

    private ModelRuns(int run) {
        seed = run * 7919L + 17;
        wrongs = run % 8;
    }

    public static void main(String[] args) {
        for (int run = 0; run < RUNS; run++) {
            C.is("run " + run, "", new ModelRuns(run).play());
        }
        C.close("ModelRuns");
    }

    /** The first call with another answer, or nothing. */
    private String play() {
        for (int i = 0; i < CALLS; i++) {
            String difference = i < 9 ? open(i) : next();
            if (!difference.isEmpty()) {
                return "call " + i + ", " + difference;
            }
        }
        return "";
    }

    /** A generator of its own, so that the runs never change. */
    private int below(int bound) {
        seed = seed * 6364136223846793005L + 1442695040888963407L;
        return (int) Math.floorMod(seed >>> 33, (long) bound);
    }

    private int among(int many) {
        if (below(64) < wrongs || many == 0) {
            return new int[] {-1, many, -2, many + 1, Integer.MAX_VALUE, Integer.MIN_VALUE}[below(6)];
        }
        return below(many);
    }

    private int within(int low, int high) {
        if (below(64) < wrongs) {
            return new int[] {low - 1, high + 1, Integer.MIN_VALUE, Integer.MAX_VALUE}[below(4)];
        }
        return below(8) == 0 ? (below(2) == 0 ? low : high) : low + below(high - low + 1);
    }

    private int anyPerson() {
        return among(persons);
    }

    private int anyName() {
        return among(names);
    }

    private int anyWork() {
        return among(works);
    }

    private char anyRight() {
        return "fspfspfspfspfspfspx".charAt(below(19));
    }

    private interface Asked {
        Object answer();
    }

    private static String told(Asked asked) {
        try {
            return String.valueOf(asked.answer());
        } catch (RuntimeException e) {
            return "throws." + e.getClass().getName();
        }
    }

    private String both(String what, Asked due, Asked got) {
        call = what;
        String want = told(due);
        String have = told(got);
        if (!want.startsWith("throws.")) {
            persons += what.equals("person") ? 1 : 0;
            names += what.equals("name") ? 1 : 0;
            works += what.equals("sign") ? 1 : 0;
        }
        return want.equals(have) ? "" : call + " answered " + have + ", due is " + want;
    }

    private String open(int i) {
        return i < 5 ? person() : name();
    }

    private String next() {
        if (!pending.isEmpty() && below(8) != 0) {
            char letter = pending.charAt(0);
            pending = pending.substring(1);
            return both("type " + letter, () -> model.type(letter), () -> house.type(letter));
        }
        return switch (below(6)) {
            case 0 -> peopleAndNames();
            case 1 -> linksAndShares();
            case 2 -> texts();
            case 3 -> moneyAndRights();
            case 4 -> courtAndYears();
            default -> looks();
        };
    }

    private String person() {
        return both("person", model::person, house::person);
    }

    private String name() {
        int owner = anyPerson();
        return both("name", () -> model.name(owner), () -> house.name(owner));
    }

    private String peopleAndNames() {
        int a = anyPerson();
        int b = anyPerson();
        int n = anyName();
        int from = below(8) == 0 ? within(0, 500) : within(model.year(), Math.min(500, model.year() + 20));
        int to = within(Math.min(500, from), 500) > 480 ? 500 : from + below(30);
        boolean isExclusive = below(3) == 0;
        return switch (below(17)) {
            case 0 -> person();
            case 1, 2 -> name();
            case 3, 4 -> both("setHeir " + a + " " + b, () -> model.setHeir(a, b), () -> house.setHeir(a, b));
            case 5 -> below(3) != 0 ? both("setHeir none", () -> model.setHeir(a, -1), () -> house.setHeir(a, -1))
                : both("die " + a, () -> model.die(a), () -> house.die(a));
            case 6, 7 -> both("sell " + n + " " + a, () -> model.sell(n, a), () -> house.sell(n, a));
            case 8, 9, 10 -> both("license " + n + " " + a + " " + from + " " + to + " " + isExclusive,
                () -> model.license(n, a, from, to, isExclusive), () -> house.license(n, a, from, to, isExclusive));
            default -> both("sign", () -> model.sign(n, a), () -> house.sign(n, a));
        };
    }

    private String linksAndShares() {
        int w = anyWork();
        int a = anyPerson();
        int b = anyPerson();
        int c = anyPerson();
        int shares = below(3) == 0 ? within(1, 100) : within(1, 40);
        boolean isBound = below(2) == 0;
        return switch (below(10)) {
            case 0, 1, 2, 3 -> both("give " + w + " " + a + " " + b + " " + shares, () -> model.give(w, a, b, shares), () -> house.give(w, a, b, shares));
            case 4, 5, 6, 7 -> both("tell " + a + " " + b + " " + w + " " + c + " " + isBound,
                () -> model.tell(a, b, w, c, isBound), () -> house.tell(a, b, w, c, isBound));
            case 8 -> both("ask public " + w + " " + a, () -> model.ask(-1, w, a), () -> house.ask(-1, w, a));
            default -> both("ask " + b + " " + w + " " + a, () -> model.ask(b, w, a), () -> house.ask(b, w, a));
        };
    }

    private String texts() {
        int w = anyWork();
        int v = anyWork();
        int which = within(0, 4);
        int count = within(0, 99);
        int most = within(1, 40);
        int bound = below(2) == 0 ? within(0, 495) : within(0, 120);
        return switch (below(10)) {
            case 0, 1, 2, 3, 4 -> both("write " + w + " " + which + " " + count, () -> model.write(w, which, count), () -> house.write(w, which, count));
            case 5, 6 -> both("mask " + w + " " + v + " " + most, () -> model.mask(w, v, most), () -> house.mask(w, v, most));
            case 7 -> both("publish " + w, () -> model.publish(w), () -> house.publish(w));
            case 8 -> both("setBound " + bound, () -> model.setBound(bound), () -> house.setBound(bound));
            default -> both("apart " + w + " " + v, () -> model.apart(w, v), () -> house.apart(w, v));
        };
    }

    private String moneyAndRights() {
        int n = anyName();
        int w = anyWork();
        int a = anyPerson();
        int cents = below(2) == 0 ? within(1, 99999) : within(1, 150);
        int points = within(-20, 20);
        int years = within(1, below(2) == 0 ? 99 : 5);
        char right = anyRight();
        return switch (below(8)) {
            case 0 -> both("advance " + n + " " + cents, () -> model.advance(n, cents), () -> house.advance(n, cents));
            case 1, 2, 3 -> both("earn " + w + " " + cents, () -> model.earn(w, cents), () -> house.earn(w, cents));
            case 4 -> both("review " + n + " " + points, () -> model.review(n, points), () -> house.review(n, points));
            case 5 -> both("scandal " + a, () -> model.scandal(a), () -> house.scandal(a));
            default -> both("grant " + w + " " + right + " " + a + " " + years, () -> model.grant(w, right, a, years), () -> house.grant(w, right, a, years));
        };
    }

    private String courtAndYears() {
        int w = anyWork();
        int years = below(3) == 0 ? within(1, 50) : within(1, 6);
        char letter = (char) within('a', 'z');
        switch (below(6)) {
            case 0:
                pending = WORDS[below(WORDS.length)];
                return both("verdict " + w, () -> model.verdict(w), () -> house.verdict(w));
            case 1, 2:
                return both("verdict " + w, () -> model.verdict(w), () -> house.verdict(w));
            case 3:
                return below(4) != 0 ? "" : both("type " + (int) letter, () -> model.type(letter), () -> house.type(letter));
            default:
                return both("pass " + years, () -> model.pass(years), () -> house.pass(years));
        }
    }

    private String looks() {
        int w = anyWork();
        int a = anyPerson();
        int b = anyPerson();
        int n = anyName();
        return below(2) == 0 ? looksAtWork(w, a, b) : looksAtHouse(w, a, n);
    }

    private String looksAtWork(int w, int a, int b) {
        int soon = model.year() + 60 + below(25);
        int year = below(2) == 0 ? soon : within(model.year(), 999);
        char right = anyRight();
        return switch (below(12)) {
            case 0 -> both("nameOf " + w, () -> model.nameOf(w), () -> house.nameOf(w));
            case 1 -> both("shares " + w + " " + a, () -> model.shares(w, a), () -> house.shares(w, a));
            case 2 -> both("firstHand " + w, () -> model.firstHand(w), () -> house.firstHand(w));
            case 3 -> both("knows " + a + " " + w + " " + b, () -> model.knows(a, w, b), () -> house.knows(a, w, b));
            case 4, 5 -> both("suspects " + a + " " + w + " " + b, () -> model.suspects(a, w, b), () -> house.suspects(a, w, b));
            case 6 -> both("isLifted " + w, () -> model.isLifted(w), () -> house.isLifted(w));
            case 7 -> both("isPossible " + w + " " + a, () -> model.isPossible(w, a), () -> house.isPossible(w, a));
            case 8 -> both("width " + w, () -> model.width(w), () -> house.width(w));
            case 9, 10 -> both("isProtected " + w + " " + year, () -> model.isProtected(w, year), () -> house.isProtected(w, year));
            default -> both("holder " + w + " " + right, () -> model.holder(w, right), () -> house.holder(w, right));
        };
    }

    private String looksAtHouse(int w, int a, int n) {
        return switch (below(15)) {
            case 0 -> both("isAlive " + a, () -> model.isAlive(a), () -> house.isAlive(a));
            case 1 -> both("owner " + n, () -> model.owner(n), () -> house.owner(n));
            case 2, 3 -> both("canSign " + n + " " + a, () -> model.canSign(n, a), () -> house.canSign(n, a));
            case 4 -> both("kept", model::kept, house::kept);
            case 5 -> both("debt " + n, () -> model.debt(n), () -> house.debt(n));
            case 6 -> both("purse " + a, () -> model.purse(a), () -> house.purse(a));
            case 7 -> both("treasury", model::treasury, house::treasury);
            case 8 -> both("audit " + a + " " + w, () -> model.audit(a, w), () -> house.audit(a, w));
            case 9 -> both("reputation " + n, () -> model.reputation(n), () -> house.reputation(n));
            case 10 -> both("year", model::year, house::year);
            case 11 -> both("checksum", model::checksum, house::checksum);
            case 12 -> both("liftedShare", model::liftedShare, house::liftedShare);
            case 13 -> both("meanWidth", model::meanWidth, house::meanWidth);
            default -> both("isSound", () -> true, house::isSound);
        };
    }
}
