import java.util.ArrayList;
import java.util.List;
import java.util.NoSuchElementException;
import java.util.TreeSet;

/**
 * A second reading of the document, slow and plain: it keeps a diary of what happened and works each
 * answer out of it anew. It shares no code and no way of keeping things with the program.
 */
final class Model {
    private record Gift(int work, int from, int to, int shares) { }

    private record Told(int listener, int work, int hand, boolean isBound) { }

    private record Sale(int name, int owner) { }

    private record Allowed(int name, int person, int from, int to, boolean isExclusive) { }

    private record Signed(int name, int person, int year) { }

    private record Given(int work, char right, int person, int from, int last) { }

    private record Coin(int person, long cents) { }

    private record Owed(int name, long cents) { }

    private record Earned(int work, long cents) { }

    private int persons;
    private int names;
    private int year;
    private int kept;
    private int told;
    private int bound = 50;
    private String word = "";
    private long treasury;
    private final int[] heirs = {-1, -1, -1, -1, -1, -1, -1, -1};
    private final int[] deaths = {-1, -1, -1, -1, -1, -1, -1, -1};
    private final int[] reputations = new int[8];
    private final int[][] texts = new int[16][5];
    private final TreeSet<Integer> lifted = new TreeSet<>();
    private final TreeSet<Integer> published = new TreeSet<>();
    private final List<Signed> works = new ArrayList<>();
    private final List<Gift> gifts = new ArrayList<>();
    private final List<Told> tales = new ArrayList<>();
    private final List<Sale> sales = new ArrayList<>();
    private final List<Allowed> licences = new ArrayList<>();
    private final List<Given> rights = new ArrayList<>();
    private final List<Coin> coins = new ArrayList<>();
    private final List<Owed> debts = new ArrayList<>();
    private final List<Earned> earnings = new ArrayList<>();

    private boolean isPerson(int p) {
        return 0 <= p && p < persons;
    }

    private boolean isName(int n) {
        return 0 <= n && n < names;
    }

    private boolean isWork(int w) {
        return 0 <= w && w < works.size();
    }

    private boolean isDead(int p) {
        return deaths[p] != -1;
    }

    private static void index(boolean isWrong) {
        if (isWrong) {
            throw new IndexOutOfBoundsException();
        }
    }

    private static void argument(boolean isWrong) {
        if (isWrong) {
            throw new IllegalArgumentException();
        }
    }

    private static void unsupported(boolean isWrong) {
        if (isWrong) {
            throw new UnsupportedOperationException();
        }
    }

    private static void state(boolean isWrong) {
        if (isWrong) {
            throw new IllegalStateException();
        }
    }

    private static void element(boolean isWrong) {
        if (isWrong) {
            throw new NoSuchElementException();
        }
    }

    private int ownerNow(int name) {
        int owner = -1;
        for (Sale sale : sales) {
            if (sale.name == name) {
                owner = sale.owner;
            }
        }
        return owner;
    }

    private int has(int work, int person) {
        int sum = works.get(work).person == person ? 100 : 0;
        for (Gift gift : gifts) {
            if (gift.work == work) {
                sum += gift.to == person ? gift.shares : 0;
                sum -= gift.from == person ? gift.shares : 0;
            }
        }
        return sum;
    }

    private TreeSet<Integer> handsOf(int work) {
        TreeSet<Integer> hands = new TreeSet<>();
        hands.add(works.get(work).person);
        for (Gift gift : gifts) {
            if (gift.work == work) {
                hands.add(gift.to);
            }
        }
        return hands;
    }

    private boolean isTold(int person, int work, int hand, boolean isOnlyFree) {
        for (Told tale : tales) {
            if (tale.listener == person && tale.work == work && tale.hand == hand && !(isOnlyFree && tale.isBound)) {
                return true;
            }
        }
        return false;
    }

    int person() {
        state(persons == 8);
        return persons++;
    }

    int setHeir(int person, int heir) {
        index(!isPerson(person));
        index(heir != -1 && !isPerson(heir));
        argument(person == heir);
        unsupported(isDead(person));
        int before = heirs[person];
        heirs[person] = heir;
        return before;
    }

    int die(int person) {
        index(!isPerson(person));
        unsupported(isDead(person));
        deaths[person] = year;
        int heir = heirs[person] != -1 && !isDead(heirs[person]) ? heirs[person] : -1;
        int moved = 0;
        for (int n = 0; n < names; n++) {
            if (ownerNow(n) == person) {
                sales.add(new Sale(n, heir));
                moved += heir == -1 ? 0 : 1;
            }
        }
        return moved;
    }

    boolean isAlive(int person) {
        index(!isPerson(person));
        return !isDead(person);
    }

    int name(int owner) {
        index(!isPerson(owner));
        unsupported(isDead(owner));
        state(names == 8);
        sales.add(new Sale(names, owner));
        return names++;
    }

    int sell(int name, int to) {
        index(!isName(name) || !isPerson(to));
        int before = ownerNow(name);
        unsupported(before == -1 || isDead(to) || before == to);
        sales.add(new Sale(name, to));
        return before;
    }

    int owner(int name) {
        index(!isName(name));
        element(ownerNow(name) == -1);
        return ownerNow(name);
    }

    int license(int name, int person, int from, int to, boolean isExclusive) {
        index(!isName(name) || !isPerson(person));
        argument(from < year || from > 500 || to < from || to > 500);
        unsupported(ownerNow(name) == -1 || ownerNow(name) == person || isDead(person));
        for (Allowed other : licences) {
            for (int y = from; y <= to; y++) {
                boolean isInBoth = other.from <= y && y <= other.to;
                unsupported(other.name == name && isInBoth && (isExclusive || other.isExclusive));
            }
        }
        state(licences.size() == 20);
        licences.add(new Allowed(name, person, from, to, isExclusive));
        return licences.size();
    }

    boolean canSign(int name, int person) {
        index(!isName(name) || !isPerson(person));
        boolean hasLicence = false;
        boolean isClosed = false;
        for (Allowed one : licences) {
            if (one.name == name && one.from <= year && year <= one.to) {
                hasLicence |= one.person == person;
                isClosed |= one.isExclusive;
            }
        }
        return !isDead(person) && (hasLicence || ownerNow(name) == person && !isClosed);
    }

    int sign(int name, int person) {
        unsupported(!canSign(name, person));
        state(works.size() == 16);
        works.add(new Signed(name, person, year));
        return works.size() - 1;
    }

    int nameOf(int work) {
        index(!isWork(work));
        return works.get(work).name;
    }

    int give(int work, int from, int to, int shares) {
        index(!isWork(work) || !isPerson(from) || !isPerson(to));
        argument(from == to || shares < 1 || shares > 100);
        unsupported(has(work, from) < shares || isDead(from) || isDead(to));
        gifts.add(new Gift(work, from, to, shares));
        return has(work, to);
    }

    int shares(int work, int person) {
        index(!isWork(work) || !isPerson(person));
        return has(work, person);
    }

    int firstHand(int work) {
        index(!isWork(work));
        for (int most = 100; most > 0; most--) {
            for (int p = 0; p < persons; p++) {
                if (has(work, p) == most) {
                    return p;
                }
            }
        }
        return -1;
    }

    int tell(int teller, int listener, int work, int hand, boolean isBound) {
        index(!isPerson(teller) || !isPerson(listener) || !isPerson(hand) || !isWork(work));
        argument(teller == listener);
        unsupported(isDead(teller) || isDead(listener) || !knows(teller, work, hand));
        boolean isHand = handsOf(work).contains(teller);
        unsupported(!isHand && !lifted.contains(work) && !isTold(teller, work, hand, true));
        state(told == 60);
        tales.add(new Told(listener, work, hand, isBound));
        return ++told;
    }

    boolean knows(int person, int work, int hand) {
        index(!isWork(work) || !isPerson(person) || !isPerson(hand));
        if (!handsOf(work).contains(hand)) {
            return false;
        }
        return lifted.contains(work) || handsOf(work).contains(person) || isTold(person, work, hand, false);
    }

    boolean suspects(int person, int work, int other) {
        index(!isWork(work) || !isPerson(person) || !isPerson(other));
        for (int a = 0; a < works.size(); a++) {
            for (int b = 0; b < a; b++) {
                boolean isOfThatName = nameOf(a) == nameOf(work) && nameOf(b) == nameOf(work);
                if (isOfThatName && a != work && b != work && knows(person, a, other) && knows(person, b, other)) {
                    return true;
                }
            }
        }
        return false;
    }

    char ask(int asker, int work, int person) {
        index(asker != -1 && !isPerson(asker));
        index(!isWork(work) || !isPerson(person));
        char truth = handsOf(work).contains(person) ? 'y' : 'n';
        if (lifted.contains(work) || handsOf(work).contains(asker)) {
            return truth;
        }
        if (asker != -1 && knows(asker, work, person)) {
            return 'y';
        }
        kept++;
        return '?';
    }

    int kept() {
        return kept;
    }

    boolean isLifted(int work) {
        index(!isWork(work));
        return lifted.contains(work);
    }

    int write(int work, int which, int count) {
        index(!isWork(work));
        argument(which < 0 || which > 4 || count < 0 || count > 99);
        unsupported(published.contains(work));
        int before = texts[work][which];
        texts[work][which] = count;
        return before;
    }

    int apart(int work, int other) {
        index(!isWork(work) || !isWork(other));
        int sum = 0;
        for (int i = 0; i < 5; i++) {
            int more = texts[work][i] - texts[other][i];
            sum += more < 0 ? -more : more;
        }
        return sum;
    }

    int mask(int work, int other, int most) {
        index(!isWork(work) || !isWork(other));
        argument(work == other || most < 1 || most > 40);
        unsupported(published.contains(work));
        for (int i = 0; i < 5; i++) {
            for (int step = 0; step < most; step++) {
                texts[work][i] += Integer.signum(texts[other][i] - texts[work][i]);
            }
        }
        return apart(work, other);
    }

    int publish(int work) {
        index(!isWork(work));
        unsupported(!published.add(work));
        return published.size();
    }

    int setBound(int most) {
        argument(most < 0 || most > 495);
        int before = bound;
        bound = most;
        return before;
    }

    boolean isPossible(int work, int person) {
        index(!isWork(work) || !isPerson(person));
        if (lifted.contains(work)) {
            return handsOf(work).contains(person);
        }
        int near = 0;
        int far = 0;
        for (int other : lifted) {
            if (published.contains(other) && handsOf(other).contains(person)) {
                near += apart(work, other) <= bound ? 1 : 0;
                far += apart(work, other) > bound ? 1 : 0;
            }
        }
        return !published.contains(work) || near > 0 || far == 0;
    }

    int width(int work) {
        index(!isWork(work));
        int sum = 0;
        for (int p = 0; p < persons; p++) {
            sum += isPossible(work, p) ? 1 : 0;
        }
        return sum;
    }

    boolean isProtected(int work, int asked) {
        index(!isWork(work));
        argument(asked < year || asked > 999);
        if (!lifted.contains(work)) {
            return asked - works.get(work).year <= 70;
        }
        int last = -1;
        for (int hand : handsOf(work)) {
            last = Math.max(last, isDead(hand) ? deaths[hand] : 1000);
        }
        return asked - last <= 70;
    }

    private Given givenNow(int work, char right) {
        for (Given one : rights) {
            if (one.work == work && one.right == right && one.from <= year && year <= one.last) {
                return one;
            }
        }
        return null;
    }

    int grant(int work, char right, int person, int years) {
        index(!isWork(work) || !isPerson(person));
        argument("fsp".indexOf(right) < 0 || years < 1 || years > 99);
        unsupported(givenNow(work, right) != null || !isProtected(work, year));
        unsupported(isDead(person) || isDead(firstHand(work)));
        rights.add(new Given(work, right, person, year, year + years - 1));
        return year + years - 1;
    }

    int holder(int work, char right) {
        index(!isWork(work));
        argument("fsp".indexOf(right) < 0);
        Given given = givenNow(work, right);
        element(given == null);
        return given.person;
    }

    private void pay(int person, long cents) {
        int heir = heirs[person];
        if (!isDead(person)) {
            coins.add(new Coin(person, cents));
        } else if (heir != -1 && !isDead(heir)) {
            coins.add(new Coin(heir, cents));
        } else {
            treasury += cents;
        }
    }

    long advance(int name, int cents) {
        index(!isName(name));
        argument(cents < 1 || cents > 99999);
        unsupported(ownerNow(name) == -1);
        pay(ownerNow(name), cents);
        debts.add(new Owed(name, cents));
        return debt(name);
    }

    long debt(int name) {
        index(!isName(name));
        long sum = 0;
        for (Owed owed : debts) {
            sum += owed.name == name ? owed.cents : 0;
        }
        return sum;
    }

    long earn(int work, int cents) {
        index(!isWork(work));
        argument(cents < 1 || cents > 99999);
        earnings.add(new Earned(work, cents));
        long back = debt(nameOf(work)) < cents ? debt(nameOf(work)) : cents;
        debts.add(new Owed(nameOf(work), -back));
        long rest = cents - back;
        long paid = 0;
        for (int p = 0; p < persons; p++) {
            long part = (long) has(work, p) * rest / 100;
            pay(p, part);
            paid += part;
        }
        pay(firstHand(work), rest - paid);
        return rest;
    }

    long purse(int person) {
        index(!isPerson(person));
        long sum = 0;
        for (Coin coin : coins) {
            sum += coin.person == person ? coin.cents : 0;
        }
        return sum;
    }

    long treasury() {
        return treasury;
    }

    long audit(int asker, int work) {
        index(!isPerson(asker) || !isWork(work));
        unsupported(!handsOf(work).contains(asker));
        long sum = 0;
        for (Earned earned : earnings) {
            sum += earned.work == work ? earned.cents : 0;
        }
        return sum;
    }

    int review(int name, int points) {
        index(!isName(name));
        argument(points < -20 || points > 20);
        for (int i = 0; i < Math.abs(points); i++) {
            int next = reputations[name] + Integer.signum(points);
            reputations[name] = next < -99 || next > 99 ? reputations[name] : next;
        }
        return reputations[name];
    }

    int reputation(int name) {
        index(!isName(name));
        return reputations[name];
    }

    int scandal(int person) {
        index(!isPerson(person));
        TreeSet<Integer> touched = new TreeSet<>();
        for (int work : lifted) {
            if (handsOf(work).contains(person)) {
                touched.add(nameOf(work));
            }
        }
        for (int name : touched) {
            reputations[name] = reputations[name] < -69 ? -99 : reputations[name] - 30;
        }
        return touched.size();
    }

    int type(char letter) {
        argument("abcdefghijklmnopqrstuvwxyz".indexOf(letter) < 0);
        state(word.length() == 6);
        word += letter;
        return word.length();
    }

    boolean verdict(int work) {
        index(!isWork(work));
        unsupported(word.isEmpty());
        String given = word;
        word = "";
        if (given.equals("lift")) {
            lifted.add(work);
        } else if (given.equals("seal")) {
            tales.replaceAll(t -> t.work == work ? new Told(t.listener, t.work, t.hand, true) : t);
        } else if (given.equals("void")) {
            rights.removeIf(r -> r.work == work);
        } else {
            return false;
        }
        return true;
    }

    int pass(int years) {
        argument(years < 1 || years > 50);
        state(year + years > 500);
        year += years;
        return year;
    }

    int year() {
        return year;
    }

    long checksum() {
        List<Long> parts = new ArrayList<>();
        for (int p = 0; p < persons; p++) {
            parts.add(purse(p));
        }
        for (int n = 0; n < names; n++) {
            parts.add((long) ownerNow(n));
            parts.add(debt(n));
            parts.add((long) reputations[n]);
        }
        for (int w = 0; w < works.size(); w++) {
            parts.add((long) firstHand(w));
            parts.add(lifted.contains(w) ? 1L : 0L);
            parts.add((long) width(w));
        }
        parts.add(treasury);
        parts.add((long) year);
        long sum = 7;
        for (long part : parts) {
            sum = sum * 31 + part;
        }
        return sum;
    }

    float liftedShare() {
        if (works.isEmpty()) {
            throw new ArithmeticException();
        }
        return (float) lifted.size() / (float) works.size();
    }

    double meanWidth() {
        if (works.isEmpty()) {
            throw new ArithmeticException();
        }
        double sum = 0;
        for (int w = 0; w < works.size(); w++) {
            sum += width(w);
        }
        return sum / works.size();
    }
}
