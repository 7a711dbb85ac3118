import java.util.NoSuchElementException;

/** Borrowed names and who answers for them; shared/DOC.md numbers the promises of each call. */
public final class Nomdeplume {
    private static final int MOST_PERSONS = 8;
    private static final int MOST_NAMES = 8;
    private static final int MOST_LICENCES = 20;
    private static final int MOST_WORKS = 16;
    private static final int MOST_TOLD = 60;
    private static final int MOST_LETTERS = 6;
    private static final int ALL_SHARES = 100;
    private static final int COUNTS = 5;
    private static final int HIGHEST_COUNT = 99;
    private static final int WIDEST_MASK = 40;
    private static final int FIRST_BOUND = 50;
    private static final int HIGHEST_BOUND = 495;
    private static final int RIGHTS = 3;
    private static final int LONGEST_GRANT = 99;
    private static final int TERM = 70;
    private static final int LAST_YEAR = 500;
    private static final int LAST_ASKED_YEAR = 999;
    private static final int LONGEST_PASS = 50;
    private static final int MOST_CENTS = 99999;
    private static final int MOST_POINTS = 20;
    private static final int SCANDAL_LOSS = 30;
    private static final int BEST_REPUTATION = 99;
    /** Stands where a person's number would: no heir, no owner, or the public that asks. */
    private static final int NOBODY = -1;
    /** Stands where a year would: of a death, or of the end of a right. It lies before every year. */
    private static final int NEVER = -1;
    private static final String LIFT = "lift";
    private static final String SEAL = "seal";
    private static final String VOID = "void";

    private final Person[] persons = new Person[MOST_PERSONS];
    private int personCount;
    private final Pen[] pens = new Pen[MOST_NAMES];
    private int penCount;
    private final Licence[] licences = new Licence[MOST_LICENCES];
    private int licenceCount;
    private final Work[] works = new Work[MOST_WORKS];
    private int workCount;
    private final char[] letters = new char[MOST_LETTERS];
    private int letterCount;
    private int toldCount;
    private int keptCount;
    private int farBound = FIRST_BOUND;
    private int now;
    private long stateCents;
    private long earnedCents;
    private long advancedCents;
    private long paidBackCents;

    /** Promise 1. */
    public Nomdeplume() {
    }

    // Persons: promises 2 to 5.

    public int person() throws IllegalStateException {
        if (personCount >= MOST_PERSONS) {
            throw new IllegalStateException("there are 8 persons");
        }
        persons[personCount] = new Person();
        personCount++;
        return personCount - 1;
    }

    public int setHeir(int person, int heir) throws IndexOutOfBoundsException, IllegalArgumentException, UnsupportedOperationException {
        Person who = personAt(person);
        if (who == null || heir != NOBODY && personAt(heir) == null) {
            throw new IndexOutOfBoundsException("no such person");
        }
        if (person == heir) {
            throw new IllegalArgumentException("nobody is the own heir");
        }
        if (!who.isLiving()) {
            throw new UnsupportedOperationException("the person died");
        }
        int before = who.heir;
        who.heir = heir;
        return before;
    }

    public int die(int person) throws IndexOutOfBoundsException, UnsupportedOperationException {
        Person who = personAt(person);
        if (who == null) {
            throw new IndexOutOfBoundsException("no such person");
        }
        if (!who.isLiving()) {
            throw new UnsupportedOperationException("the person died");
        }
        who.deathYear = now;
        int heir = livingHeirOf(who);
        int moved = moveNames(person, heir);
        return heir == NOBODY ? 0 : moved;
    }

    public boolean isAlive(int person) throws IndexOutOfBoundsException {
        Person who = personAt(person);
        if (who == null) {
            throw new IndexOutOfBoundsException("no such person");
        }
        return who.isLiving();
    }

    // Names: promises 6 to 8.

    public int name(int owner) throws IndexOutOfBoundsException, UnsupportedOperationException, IllegalStateException {
        Person who = personAt(owner);
        if (who == null) {
            throw new IndexOutOfBoundsException("no such person");
        }
        if (!who.isLiving()) {
            throw new UnsupportedOperationException("the person died");
        }
        if (penCount >= MOST_NAMES) {
            throw new IllegalStateException("there are 8 names");
        }
        pens[penCount] = new Pen(owner);
        penCount++;
        return penCount - 1;
    }

    public int sell(int name, int to) throws IndexOutOfBoundsException, UnsupportedOperationException {
        Pen pen = penAt(name);
        Person buyer = personAt(to);
        if (pen == null || buyer == null) {
            throw new IndexOutOfBoundsException("no such name or person");
        }
        if (pen.owner == NOBODY || !buyer.isLiving() || pen.owner == to) {
            throw new UnsupportedOperationException("it cannot be sold to that one");
        }
        int before = pen.owner;
        pen.owner = to;
        return before;
    }

    public int owner(int name) throws IndexOutOfBoundsException, NoSuchElementException {
        Pen pen = penAt(name);
        if (pen == null) {
            throw new IndexOutOfBoundsException("no such name");
        }
        if (pen.owner == NOBODY) {
            throw new NoSuchElementException("nobody owns it");
        }
        return pen.owner;
    }

    // Licences and signing: promises 9 to 12.

    public int license(int name, int person, int from, int to, boolean isExclusive) throws IndexOutOfBoundsException, IllegalArgumentException, UnsupportedOperationException, IllegalStateException {
        Pen pen = penAt(name);
        Person who = personAt(person);
        if (pen == null || who == null) {
            throw new IndexOutOfBoundsException("no such name or person");
        }
        if (from < now || from > LAST_YEAR || to < from || to > LAST_YEAR) {
            throw new IllegalArgumentException("a year is out of range");
        }
        if (pen.owner == NOBODY || pen.owner == person || !who.isLiving()) {
            throw new UnsupportedOperationException("that one cannot be given a licence");
        }
        if (isInConflict(name, from, to, isExclusive)) {
            throw new UnsupportedOperationException("it has a year in common with another one");
        }
        if (licenceCount >= MOST_LICENCES) {
            throw new IllegalStateException("20 were given");
        }
        licences[licenceCount] = new Licence(name, person, from, to, isExclusive);
        licenceCount++;
        return licenceCount;
    }

    public boolean canSign(int name, int person) throws IndexOutOfBoundsException {
        Pen pen = penAt(name);
        Person who = personAt(person);
        if (pen == null || who == null) {
            throw new IndexOutOfBoundsException("no such name or person");
        }
        return who.isLiving() && maySign(pen, name, person);
    }

    public int sign(int name, int person) throws IndexOutOfBoundsException, UnsupportedOperationException, IllegalStateException {
        Pen pen = penAt(name);
        Person who = personAt(person);
        if (pen == null || who == null) {
            throw new IndexOutOfBoundsException("no such name or person");
        }
        if (!who.isLiving() || !maySign(pen, name, person)) {
            throw new UnsupportedOperationException("the person cannot sign");
        }
        if (workCount >= MOST_WORKS) {
            throw new IllegalStateException("there are 16 works");
        }
        works[workCount] = new Work(name, person, now);
        workCount++;
        return workCount - 1;
    }

    public int nameOf(int work) throws IndexOutOfBoundsException {
        Work text = workAt(work);
        if (text == null) {
            throw new IndexOutOfBoundsException("no such work");
        }
        return text.pen;
    }

    // Shares: promises 13 to 15.

    public int give(int work, int from, int to, int shares) throws IndexOutOfBoundsException, IllegalArgumentException, UnsupportedOperationException {
        Work text = workAt(work);
        Person giver = personAt(from);
        Person taker = personAt(to);
        if (text == null || giver == null || taker == null) {
            throw new IndexOutOfBoundsException("no such work or person");
        }
        if (from == to || shares < 1 || shares > ALL_SHARES) {
            throw new IllegalArgumentException("both are the same, or the shares are out of range");
        }
        if (text.parts[from] < shares || !giver.isLiving() || !taker.isLiving()) {
            throw new UnsupportedOperationException("they cannot be given");
        }
        text.moveParts(from, to, shares);
        return text.parts[to];
    }

    public int shares(int work, int person) throws IndexOutOfBoundsException {
        Work text = workAt(work);
        if (text == null || personAt(person) == null) {
            throw new IndexOutOfBoundsException("no such work or person");
        }
        return text.parts[person];
    }

    public int firstHand(int work) throws IndexOutOfBoundsException {
        Work text = workAt(work);
        if (text == null) {
            throw new IndexOutOfBoundsException("no such work");
        }
        return text.leader();
    }

    // Links and questions: promises 16 to 21.

    public int tell(int teller, int listener, int work, int hand, boolean isBound) throws IndexOutOfBoundsException, IllegalArgumentException, UnsupportedOperationException, IllegalStateException {
        Work text = workAt(work);
        Person speaker = personAt(teller);
        Person hearer = personAt(listener);
        if (text == null || speaker == null || hearer == null || personAt(hand) == null) {
            throw new IndexOutOfBoundsException("no such person or work");
        }
        if (teller == listener) {
            throw new IllegalArgumentException("the teller is the listener");
        }
        if (!speaker.isLiving() || !hearer.isLiving() || !text.canBeToldBy(teller, hand)) {
            throw new UnsupportedOperationException("it cannot be told");
        }
        if (toldCount >= MOST_TOLD) {
            throw new IllegalStateException("60 were told");
        }
        text.hear(listener, hand, isBound);
        toldCount++;
        return toldCount;
    }

    public boolean knows(int person, int work, int hand) throws IndexOutOfBoundsException {
        Work text = workAt(work);
        if (text == null || personAt(person) == null || personAt(hand) == null) {
            throw new IndexOutOfBoundsException("no such person or work");
        }
        return text.isKnownTo(person, hand);
    }

    public boolean suspects(int person, int work, int other) throws IndexOutOfBoundsException {
        Work text = workAt(work);
        if (text == null || personAt(person) == null || personAt(other) == null) {
            throw new IndexOutOfBoundsException("no such person or work");
        }
        int known = 0;
        for (int i = 0; i < workCount; i++) {
            if (i != work && works[i].pen == text.pen && works[i].isKnownTo(person, other)) {
                known++;
            }
        }
        return known >= 2;
    }

    public char ask(int asker, int work, int person) throws IndexOutOfBoundsException {
        Work text = workAt(work);
        if (text == null || personAt(person) == null || asker != NOBODY && personAt(asker) == null) {
            throw new IndexOutOfBoundsException("no such person or work");
        }
        if (text.isVeilLifted || asker != NOBODY && text.isByHand(asker)) {
            return text.isByHand(person) ? 'y' : 'n';
        }
        if (asker != NOBODY && text.isKnownTo(asker, person)) {
            return 'y';
        }
        keptCount++;
        return '?';
    }

    public int kept() {
        return keptCount;
    }

    public boolean isLifted(int work) throws IndexOutOfBoundsException {
        Work text = workAt(work);
        if (text == null) {
            throw new IndexOutOfBoundsException("no such work");
        }
        return text.isVeilLifted;
    }

    // Style: promises 22 to 28.

    public int write(int work, int which, int count) throws IndexOutOfBoundsException, IllegalArgumentException, UnsupportedOperationException {
        Work text = workAt(work);
        if (text == null) {
            throw new IndexOutOfBoundsException("no such work");
        }
        if (which < 0 || which >= COUNTS || count < 0 || count > HIGHEST_COUNT) {
            throw new IllegalArgumentException("a number is out of range");
        }
        if (text.isOut) {
            throw new UnsupportedOperationException("it is published");
        }
        int before = text.counts[which];
        text.counts[which] = count;
        return before;
    }

    public int apart(int work, int other) throws IndexOutOfBoundsException {
        Work text = workAt(work);
        Work second = workAt(other);
        if (text == null || second == null) {
            throw new IndexOutOfBoundsException("no such work");
        }
        return text.distanceTo(second);
    }

    public int mask(int work, int other, int most) throws IndexOutOfBoundsException, IllegalArgumentException, UnsupportedOperationException {
        Work text = workAt(work);
        Work goal = workAt(other);
        if (text == null || goal == null) {
            throw new IndexOutOfBoundsException("no such work");
        }
        if (work == other || most < 1 || most > WIDEST_MASK) {
            throw new IllegalArgumentException("both are the same, or the number is out of range");
        }
        if (text.isOut) {
            throw new UnsupportedOperationException("it is published");
        }
        text.moveToward(goal, most);
        return text.distanceTo(goal);
    }

    public int publish(int work) throws IndexOutOfBoundsException, UnsupportedOperationException {
        Work text = workAt(work);
        if (text == null) {
            throw new IndexOutOfBoundsException("no such work");
        }
        if (text.isOut) {
            throw new UnsupportedOperationException("it is published");
        }
        text.isOut = true;
        int out = 0;
        for (int i = 0; i < workCount; i++) {
            out += works[i].isOut ? 1 : 0;
        }
        return out;
    }

    public int setBound(int bound) throws IllegalArgumentException {
        if (bound < 0 || bound > HIGHEST_BOUND) {
            throw new IllegalArgumentException("the bound is out of range");
        }
        int before = farBound;
        farBound = bound;
        return before;
    }

    public boolean isPossible(int work, int person) throws IndexOutOfBoundsException {
        Work text = workAt(work);
        if (text == null || personAt(person) == null) {
            throw new IndexOutOfBoundsException("no such work or person");
        }
        return isHeldPossible(text, person);
    }

    public int width(int work) throws IndexOutOfBoundsException {
        Work text = workAt(work);
        if (text == null) {
            throw new IndexOutOfBoundsException("no such work");
        }
        return countPossible(text);
    }

    // Terms and rights: promises 29 to 31.

    public boolean isProtected(int work, int year) throws IndexOutOfBoundsException, IllegalArgumentException {
        Work text = workAt(work);
        if (text == null) {
            throw new IndexOutOfBoundsException("no such work");
        }
        if (year < now || year > LAST_ASKED_YEAR) {
            throw new IllegalArgumentException("the year is out of range");
        }
        return isCovered(text, year);
    }

    public int grant(int work, char right, int person, int years) throws IndexOutOfBoundsException, IllegalArgumentException, UnsupportedOperationException {
        Work text = workAt(work);
        Person taker = personAt(person);
        if (text == null || taker == null) {
            throw new IndexOutOfBoundsException("no such work or person");
        }
        int index = indexOfRight(right);
        if (index < 0 || years < 1 || years > LONGEST_GRANT) {
            throw new IllegalArgumentException("no such right, or the years are out of range");
        }
        if (text.isGranted(index, now) || !isCovered(text, now)) {
            throw new UnsupportedOperationException("it is given, or the work is not protected");
        }
        if (!taker.isLiving() || !isLivingAt(text.leader())) {
            throw new UnsupportedOperationException("the person or the first hand died");
        }
        text.rightHolders[index] = person;
        text.rightEnds[index] = now + years - 1;
        return text.rightEnds[index];
    }

    public int holder(int work, char right) throws IndexOutOfBoundsException, IllegalArgumentException, NoSuchElementException {
        Work text = workAt(work);
        if (text == null) {
            throw new IndexOutOfBoundsException("no such work");
        }
        int index = indexOfRight(right);
        if (index < 0) {
            throw new IllegalArgumentException("no such right");
        }
        if (!text.isGranted(index, now)) {
            throw new NoSuchElementException("it is not given");
        }
        return text.rightHolders[index];
    }

    // Money: promises 32 to 37.

    public long advance(int name, int cents) throws IndexOutOfBoundsException, IllegalArgumentException, UnsupportedOperationException {
        Pen pen = penAt(name);
        if (pen == null) {
            throw new IndexOutOfBoundsException("no such name");
        }
        if (cents < 1 || cents > MOST_CENTS) {
            throw new IllegalArgumentException("the cents are out of range");
        }
        if (pen.owner == NOBODY) {
            throw new UnsupportedOperationException("nobody owns it");
        }
        pay(pen.owner, cents);
        pen.owed += cents;
        advancedCents += cents;
        return pen.owed;
    }

    public long debt(int name) throws IndexOutOfBoundsException {
        Pen pen = penAt(name);
        if (pen == null) {
            throw new IndexOutOfBoundsException("no such name");
        }
        return pen.owed;
    }

    public long earn(int work, int cents) throws IndexOutOfBoundsException, IllegalArgumentException {
        Work text = workAt(work);
        Pen pen = text == null ? null : penAt(text.pen);
        if (text == null || pen == null) {
            throw new IndexOutOfBoundsException("no such work");
        }
        if (cents < 1 || cents > MOST_CENTS) {
            throw new IllegalArgumentException("the cents are out of range");
        }
        text.earned += cents;
        earnedCents += cents;
        long rest = cents - payBack(pen, cents);
        payOut(text, rest);
        return rest;
    }

    public long purse(int person) throws IndexOutOfBoundsException {
        Person who = personAt(person);
        if (who == null) {
            throw new IndexOutOfBoundsException("no such person");
        }
        return who.cents;
    }

    public long treasury() {
        return stateCents;
    }

    public long audit(int asker, int work) throws IndexOutOfBoundsException, UnsupportedOperationException {
        Work text = workAt(work);
        if (text == null || personAt(asker) == null) {
            throw new IndexOutOfBoundsException("no such person or work");
        }
        if (!text.isByHand(asker)) {
            throw new UnsupportedOperationException("the person is no hand of it");
        }
        return text.earned;
    }

    // Reputation: promises 38 to 40.

    public int review(int name, int points) throws IndexOutOfBoundsException, IllegalArgumentException {
        Pen pen = penAt(name);
        if (pen == null) {
            throw new IndexOutOfBoundsException("no such name");
        }
        if (points < -MOST_POINTS || points > MOST_POINTS) {
            throw new IllegalArgumentException("the points are out of range");
        }
        pen.addFame(points);
        return pen.fame;
    }

    public int reputation(int name) throws IndexOutOfBoundsException {
        Pen pen = penAt(name);
        if (pen == null) {
            throw new IndexOutOfBoundsException("no such name");
        }
        return pen.fame;
    }

    public int scandal(int person) throws IndexOutOfBoundsException {
        if (personAt(person) == null) {
            throw new IndexOutOfBoundsException("no such person");
        }
        int touched = 0;
        for (int i = 0; i < penCount; i++) {
            if (isOpenlyTied(i, person)) {
                pens[i].addFame(-SCANDAL_LOSS);
                touched++;
            }
        }
        return touched;
    }

    // Verdicts: promises 41 and 42.

    public int type(char letter) throws IllegalArgumentException, IllegalStateException {
        if (letter < 'a' || letter > 'z') {
            throw new IllegalArgumentException("it is no small letter");
        }
        if (letterCount >= MOST_LETTERS) {
            throw new IllegalStateException("there are 6 letters");
        }
        letters[letterCount] = letter;
        letterCount++;
        return letterCount;
    }

    public boolean verdict(int work) throws IndexOutOfBoundsException, UnsupportedOperationException {
        Work text = workAt(work);
        if (text == null) {
            throw new IndexOutOfBoundsException("no such work");
        }
        if (letterCount == 0) {
            throw new UnsupportedOperationException("nothing is typed");
        }
        boolean isWord = true;
        if (isTyped(LIFT)) {
            text.isVeilLifted = true;
        } else if (isTyped(SEAL)) {
            text.bindAll();
        } else if (isTyped(VOID)) {
            text.endRights();
        } else {
            isWord = false;
        }
        letterCount = 0;
        return isWord;
    }

    // Years and the whole house: promises 43 to 48.

    public int pass(int years) throws IllegalArgumentException, IllegalStateException {
        if (years < 1 || years > LONGEST_PASS) {
            throw new IllegalArgumentException("the years are out of range");
        }
        if (now + years > LAST_YEAR) {
            throw new IllegalStateException("it would be above 500");
        }
        now += years;
        return now;
    }

    public int year() {
        return now;
    }

    public long checksum() {
        long sum = 7;
        for (int i = 0; i < personCount; i++) {
            sum = 31 * sum + persons[i].cents;
        }
        for (int i = 0; i < penCount; i++) {
            sum = 31 * sum + pens[i].owner;
            sum = 31 * sum + pens[i].owed;
            sum = 31 * sum + pens[i].fame;
        }
        for (int i = 0; i < workCount; i++) {
            sum = 31 * sum + works[i].leader();
            sum = 31 * sum + (works[i].isVeilLifted ? 1 : 0);
            sum = 31 * sum + countPossible(works[i]);
        }
        sum = 31 * sum + stateCents;
        return 31 * sum + now;
    }

    public float liftedShare() throws ArithmeticException {
        if (workCount == 0) {
            throw new ArithmeticException("there are no works");
        }
        int lifted = 0;
        for (int i = 0; i < workCount; i++) {
            lifted += works[i].isVeilLifted ? 1 : 0;
        }
        return (float) lifted / (float) workCount;
    }

    public double meanWidth() throws ArithmeticException {
        if (workCount == 0) {
            throw new ArithmeticException("there are no works");
        }
        int sum = 0;
        for (int i = 0; i < workCount; i++) {
            sum += countPossible(works[i]);
        }
        return (double) sum / (double) workCount;
    }

    public boolean isSound() {
        for (int i = 0; i < workCount; i++) {
            if (!works[i].isWhole() || !works[i].isToldTruly() || !areHandsPossible(works[i])) {
                return false;
            }
        }
        return isMoneyWhole();
    }

    // Who stands behind a number: null if there is none.

    private Person personAt(int number) {
        return number >= 0 && number < personCount ? persons[number] : null;
    }

    private Pen penAt(int number) {
        return number >= 0 && number < penCount ? pens[number] : null;
    }

    private Work workAt(int number) {
        return number >= 0 && number < workCount ? works[number] : null;
    }

    private static int indexOfRight(char right) {
        if (right == 'f') {
            return 0;
        }
        if (right == 's') {
            return 1;
        }
        return right == 'p' ? 2 : -1;
    }

    // Heirs and money.

    private boolean isLivingAt(int number) {
        Person who = personAt(number);
        return who != null && who.isLiving();
    }

    private int livingHeirOf(Person who) {
        return isLivingAt(who.heir) ? who.heir : NOBODY;
    }

    /** Who is paid in somebody's place: null stands for the treasury. */
    private Person payeeFor(Person who) {
        return who == null || who.isLiving() ? who : personAt(livingHeirOf(who));
    }

    private int moveNames(int from, int to) {
        int moved = 0;
        for (int i = 0; i < penCount; i++) {
            if (pens[i].owner == from) {
                pens[i].owner = to;
                moved++;
            }
        }
        return moved;
    }

    private void pay(int person, long cents) {
        Person payee = payeeFor(personAt(person));
        if (payee == null) {
            stateCents += cents;
        } else {
            payee.cents += cents;
        }
    }

    private long payBack(Pen pen, long cents) {
        long back = Math.min(cents, pen.owed);
        pen.owed -= back;
        paidBackCents += back;
        return back;
    }

    private void payOut(Work text, long cents) {
        long left = cents;
        for (int i = 0; i < personCount; i++) {
            long part = cents * text.parts[i] / ALL_SHARES;
            pay(i, part);
            left -= part;
        }
        pay(text.leader(), left);
    }

    // Licences.

    private boolean isInConflict(int pen, int from, int to, boolean isExclusive) {
        for (int i = 0; i < licenceCount; i++) {
            Licence other = licences[i];
            boolean isOneExclusive = isExclusive || other.isForOneAlone;
            if (other.pen == pen && isOneExclusive && from <= other.to && other.from <= to) {
                return true;
            }
        }
        return false;
    }

    private boolean maySign(Pen pen, int number, int person) {
        boolean isTaken = false;
        for (int i = 0; i < licenceCount; i++) {
            Licence licence = licences[i];
            if (licence.pen == number && licence.from <= now && now <= licence.to) {
                if (licence.person == person) {
                    return true;
                }
                isTaken = isTaken || licence.isForOneAlone;
            }
        }
        return pen.owner == person && !isTaken;
    }

    // What the public holds possible.

    private boolean isHeldPossible(Work text, int person) {
        if (text.isVeilLifted) {
            return text.isByHand(person);
        }
        return !text.isOut || !isRuledOut(text, person);
    }

    /** The text's own veil is shut, so that it is none of the works that are looked at. */
    private boolean isRuledOut(Work text, int person) {
        boolean hasOther = false;
        for (int i = 0; i < workCount; i++) {
            Work other = works[i];
            if (other.isVeilLifted && other.isOut && other.isByHand(person)) {
                if (text.distanceTo(other) <= farBound) {
                    return false;
                }
                hasOther = true;
            }
        }
        return hasOther;
    }

    private int countPossible(Work text) {
        int possible = 0;
        for (int i = 0; i < personCount; i++) {
            possible += isHeldPossible(text, i) ? 1 : 0;
        }
        return possible;
    }

    // Terms.

    /** No hand dies before the work is signed, so that the lifted term never ends before the other. */
    private boolean isCovered(Work text, int year) {
        if (year <= text.signedYear + TERM) {
            return true;
        }
        if (!text.isVeilLifted) {
            return false;
        }
        int lastDeath = NEVER;
        for (int i = 0; i < personCount; i++) {
            if (text.isByHand(i)) {
                if (persons[i].isLiving()) {
                    return true;
                }
                lastDeath = Math.max(lastDeath, persons[i].deathYear);
            }
        }
        return year <= lastDeath + TERM;
    }

    // Scandals, words and soundness.

    private boolean isOpenlyTied(int pen, int person) {
        for (int i = 0; i < workCount; i++) {
            if (works[i].pen == pen && works[i].isVeilLifted && works[i].isByHand(person)) {
                return true;
            }
        }
        return false;
    }

    private boolean isTyped(String word) {
        if (word.length() != letterCount) {
            return false;
        }
        for (int i = 0; i < letterCount; i++) {
            if (word.charAt(i) != letters[i]) {
                return false;
            }
        }
        return true;
    }

    private boolean isMoneyWhole() {
        long had = stateCents + paidBackCents;
        for (int i = 0; i < personCount; i++) {
            had += persons[i].cents;
        }
        return earnedCents + advancedCents == had;
    }

    private boolean areHandsPossible(Work text) {
        for (int i = 0; i < personCount; i++) {
            if (text.isVeilLifted && text.isByHand(i) && !isHeldPossible(text, i)) {
                return false;
            }
        }
        return true;
    }

    private static final class Person {
        int heir = NOBODY;
        int deathYear = NEVER;
        long cents;

        boolean isLiving() {
            return deathYear == NEVER;
        }
    }

    /** A name that somebody owns and others sign. */
    private static final class Pen {
        int owner;
        long owed;
        int fame;

        Pen(int owner) {
            this.owner = owner;
        }

        void addFame(int points) {
            fame = Math.max(-BEST_REPUTATION, Math.min(BEST_REPUTATION, fame + points));
        }
    }

    private static final class Licence {
        final int pen;
        final int person;
        final int from;
        final int to;
        final boolean isForOneAlone;

        Licence(int pen, int person, int from, int to, boolean isForOneAlone) {
            this.pen = pen;
            this.person = person;
            this.from = from;
            this.to = to;
            this.isForOneAlone = isForOneAlone;
        }
    }

    private static final class Work {
        final int pen;
        final int signedYear;
        final int[] parts = new int[MOST_PERSONS];
        /** Bit p is set for person p: who gave all shares away stays a hand. */
        int hands;
        boolean isVeilLifted;
        boolean isOut;
        final int[] counts = new int[COUNTS];
        /** Of each hand, the bits of those who were told that link at all, and of those who were told it free. */
        final int[] told = new int[MOST_PERSONS];
        final int[] toldFree = new int[MOST_PERSONS];
        final int[] rightHolders = new int[RIGHTS];
        final int[] rightEnds = {NEVER, NEVER, NEVER};
        long earned;

        Work(int pen, int signer, int signedYear) {
            this.pen = pen;
            this.signedYear = signedYear;
            parts[signer] = ALL_SHARES;
            hands = 1 << signer;
        }

        boolean isByHand(int person) {
            return (hands & 1 << person) != 0;
        }

        int leader() {
            int best = 0;
            for (int i = 1; i < MOST_PERSONS; i++) {
                if (parts[i] > parts[best]) {
                    best = i;
                }
            }
            return best;
        }

        void moveParts(int from, int to, int amount) {
            parts[from] -= amount;
            parts[to] += amount;
            hands |= 1 << to;
        }

        boolean isKnownTo(int person, int hand) {
            boolean isTold = (told[hand] & 1 << person) != 0;
            return isByHand(hand) && (isVeilLifted || isByHand(person) || isTold);
        }

        boolean canBeToldBy(int person, int hand) {
            boolean isToldFree = (toldFree[hand] & 1 << person) != 0;
            return isKnownTo(person, hand) && (isVeilLifted || isByHand(person) || isToldFree);
        }

        void hear(int listener, int hand, boolean isBound) {
            told[hand] |= 1 << listener;
            if (!isBound) {
                toldFree[hand] |= 1 << listener;
            }
        }

        void bindAll() {
            for (int i = 0; i < MOST_PERSONS; i++) {
                toldFree[i] = 0;
            }
        }

        int distanceTo(Work other) {
            int sum = 0;
            for (int i = 0; i < COUNTS; i++) {
                sum += Math.abs(counts[i] - other.counts[i]);
            }
            return sum;
        }

        void moveToward(Work goal, int most) {
            for (int i = 0; i < COUNTS; i++) {
                int gap = goal.counts[i] - counts[i];
                counts[i] += Math.max(-most, Math.min(most, gap));
            }
        }

        boolean isGranted(int right, int year) {
            return year <= rightEnds[right];
        }

        void endRights() {
            for (int i = 0; i < RIGHTS; i++) {
                rightEnds[i] = NEVER;
            }
        }

        boolean isWhole() {
            int sum = 0;
            for (int i = 0; i < MOST_PERSONS; i++) {
                sum += parts[i];
            }
            return sum == ALL_SHARES;
        }

        boolean isToldTruly() {
            for (int i = 0; i < MOST_PERSONS; i++) {
                if (told[i] != 0 && !isByHand(i)) {
                    return false;
                }
            }
            return true;
        }
    }
}
