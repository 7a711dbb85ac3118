/**
 * Each parameter of each promise, alone: the lowest and the highest value that are allowed, with their
 * answers, then the first ones beyond them and the farthest off, with the exception. Where a parameter
 * is a number of a person, a name or a work, the house has as many as there may be.
 */
public final class RangeTests {
    private static final Class<?> INDEX = IndexOutOfBoundsException.class;
    private static final Class<?> ARGUMENT = IllegalArgumentException.class;
    private static final Checks C = new Checks();

    /** A value at an end of the range, and the answer that is due for it. */
    private record End(int value, Object answer) { }

    private interface With {
        Object on(Nomdeplume house, int value);
    }

    public static void main(String[] args) {
        persons();
        names();
        licences();
        signing();
        shares();
        links();
        questions();
        texts();
        publicOpinion();
        terms();
        rights();
        money();
        reputations();
        lettersAndYears();
        C.close("RangeTests");
    }

    private static End at(int value, Object answer) {
        return new End(value, answer);
    }

    private static void number(String what, End low, End high, With call) {
        range(what, Houses::wide, INDEX, low, high, call);
    }

    private static void range(String what, Checks.Plan plan, Class<?> due, End low, End high, With call) {
        for (End end : new End[] {low, high}) {
            C.is(what + " " + end.value, end.answer, Checks.answer(plan.build(), h -> call.on(h, end.value)));
        }
        for (int beyond : new int[] {low.value - 1, high.value + 1, Integer.MIN_VALUE, Integer.MAX_VALUE}) {
            C.refused(what + " " + beyond, plan, due, h -> call.on(h, beyond));
        }
    }

    /** Who owns the name, or signed the work, of that number: somebody, too, where there is none. */
    private static int owner(int number) {
        return Math.floorMod(number, 8);
    }

    private static void persons() {
        number("3 person", at(0, -1), at(7, -1), (h, v) -> h.setHeir(v, 3));
        number("3 heir", at(-1, -1), at(7, -1), (h, v) -> h.setHeir(3, v));
        number("4 person", at(0, 0), at(7, 0), (h, v) -> h.die(v));
        number("5 person", at(0, true), at(7, true), (h, v) -> h.isAlive(v));
    }

    private static void names() {
        range("6 owner", () -> Houses.people(8), INDEX, at(0, 0), at(7, 0), (h, v) -> h.name(v));
        number("7 name", at(0, 0), at(7, 7), (h, v) -> h.sell(v, 3));
        number("7 to", at(0, 3), at(7, 3), (h, v) -> h.sell(3, v));
        number("8 name", at(0, 0), at(7, 7), (h, v) -> h.owner(v));
    }

    private static void licences() {
        Checks.Plan later = () -> Houses.pass(Houses.wide(), 37);
        number("9 name", at(0, 1), at(7, 1), (h, v) -> h.license(v, 3, 0, 500, true));
        number("9 person", at(0, 1), at(7, 1), (h, v) -> h.license(3, v, 0, 500, true));
        range("9 from, in the year 0", Houses::wide, ARGUMENT, at(0, 1), at(500, 1), (h, v) -> h.license(3, 4, v, 500, false));
        range("9 from, later", later, ARGUMENT, at(37, 1), at(500, 1), (h, v) -> h.license(3, 4, v, 500, false));
        range("9 from, with the same to", later, ARGUMENT, at(37, 1), at(500, 1), (h, v) -> h.license(3, 4, v, v, false));
        range("9 to, from now", later, ARGUMENT, at(37, 1), at(500, 1), (h, v) -> h.license(3, 4, 37, v, false));
        range("9 to, from later", later, ARGUMENT, at(90, 1), at(500, 1), (h, v) -> h.license(3, 4, 90, v, false));
        range("9 to, from the last year", later, ARGUMENT, at(500, 1), at(500, 1), (h, v) -> h.license(3, 4, 500, v, false));
        number("10 name", at(0, false), at(7, true), (h, v) -> h.canSign(v, 7));
        number("10 person", at(0, false), at(7, true), (h, v) -> h.canSign(7, v));
    }

    private static void signing() {
        range("11 name", RangeTests::licensed, INDEX, at(0, 0), at(7, 0), (h, v) -> h.sign(v, 0));
        range("11 person", RangeTests::licensed, INDEX, at(0, 0), at(7, 0), (h, v) -> h.sign(0, v));
        number("12 work", at(0, 0), at(15, 7), (h, v) -> h.nameOf(v));
    }

    /** Person 0 can sign by each name, and each person by name 0. */
    private static Nomdeplume licensed() {
        Nomdeplume x = Houses.named();
        for (int i = 1; i < 8; i++) {
            x.license(i, 0, 0, 0, false);
            x.license(0, i, 0, 0, false);
        }
        return x;
    }

    private static void shares() {
        number("13 work", at(0, 1), at(15, 1), (h, v) -> h.give(v, owner(v), 3, 1));
        number("13 from", at(0, 1), at(7, 1), (h, v) -> h.give(owner(v), v, 3, 1));
        number("13 to", at(0, 1), at(7, 1), (h, v) -> h.give(3, 3, v, 1));
        range("13 shares", Houses::wide, ARGUMENT, at(1, 1), at(100, 100), (h, v) -> h.give(3, 3, 4, v));
        number("14 work", at(0, 0), at(15, 100), (h, v) -> h.shares(v, 7));
        number("14 person", at(0, 0), at(7, 100), (h, v) -> h.shares(15, v));
        number("15 work", at(0, 0), at(15, 7), (h, v) -> h.firstHand(v));
    }

    private static void links() {
        Checks.Plan threeHands = () -> {
            Nomdeplume x = Houses.wide();
            x.give(3, 3, 0, 1);
            x.give(3, 3, 7, 1);
            return x;
        };
        number("16 teller", at(0, 1), at(7, 1), (h, v) -> h.tell(v, 3, owner(v), owner(v), true));
        number("16 listener", at(0, 1), at(7, 1), (h, v) -> h.tell(3, v, 3, 3, true));
        number("16 work", at(0, 1), at(15, 1), (h, v) -> h.tell(owner(v), 3, v, owner(v), true));
        range("16 hand", threeHands, INDEX, at(0, 1), at(7, 1), (h, v) -> h.tell(3, 4, 3, v, true));
        number("17 person", at(0, false), at(7, true), (h, v) -> h.knows(v, 15, 7));
        number("17 work", at(0, false), at(15, true), (h, v) -> h.knows(7, v, 7));
        number("17 hand", at(0, false), at(7, true), (h, v) -> h.knows(7, 15, v));
    }

    private static void questions() {
        Checks.Plan lastOfOne = () -> {
            Nomdeplume x = Houses.named();
            for (int i = 0; i < 16; i++) {
                x.sign(7, 7);
            }
            return x;
        };
        range("18 person", lastOfOne, INDEX, at(0, false), at(7, true), (h, v) -> h.suspects(v, 15, 7));
        range("18 work", lastOfOne, INDEX, at(0, true), at(15, true), (h, v) -> h.suspects(7, v, 7));
        range("18 other", lastOfOne, INDEX, at(0, false), at(7, true), (h, v) -> h.suspects(7, 15, v));
        number("19 asker", at(-1, '?'), at(7, 'y'), (h, v) -> h.ask(v, 15, 7));
        number("19 asker, a person", at(-1, '?'), at(7, 'n'), (h, v) -> h.ask(v, 15, 0));
        number("19 work", at(0, '?'), at(15, 'y'), (h, v) -> h.ask(7, v, 7));
        number("19 person", at(0, 'n'), at(7, 'y'), (h, v) -> h.ask(7, 15, v));
        range("21 work", RangeTests::lastLifted, INDEX, at(0, false), at(15, true), (h, v) -> h.isLifted(v));
    }

    private static Nomdeplume lastLifted() {
        Nomdeplume x = Houses.wide();
        Houses.rule(x, 15, "lift");
        return x;
    }

    private static void texts() {
        Checks.Plan counted = () -> {
            Nomdeplume x = Houses.wide();
            x.write(15, 0, 10);
            x.write(15, 4, 99);
            return x;
        };
        range("22 work", counted, INDEX, at(0, 0), at(15, 99), (h, v) -> h.write(v, 4, 1));
        range("22 which", counted, ARGUMENT, at(0, 10), at(4, 99), (h, v) -> h.write(15, v, 1));
        range("22 count", counted, ARGUMENT, at(0, 99), at(99, 99), (h, v) -> h.write(15, 4, v));
        range("23 work", counted, INDEX, at(0, 109), at(15, 0), (h, v) -> h.apart(v, 15));
        range("23 other", counted, INDEX, at(0, 109), at(15, 0), (h, v) -> h.apart(15, v));
        range("24 work", counted, INDEX, at(0, 0), at(15, 109 - 14), (h, v) -> h.mask(v, 3, 7));
        range("24 other", counted, INDEX, at(0, 0), at(15, 109 - 14), (h, v) -> h.mask(3, v, 7));
        range("24 most", counted, ARGUMENT, at(1, 107), at(40, 59), (h, v) -> h.mask(3, 15, v));
        number("25 work", at(0, 1), at(15, 1), (h, v) -> h.publish(v));
        range("26 bound", Houses::wide, ARGUMENT, at(0, 50), at(495, 50), (h, v) -> h.setBound(v));
    }

    private static void publicOpinion() {
        range("27 work", RangeTests::lastLifted, INDEX, at(0, true), at(15, false), (h, v) -> h.isPossible(v, 0));
        range("27 person", RangeTests::lastLifted, INDEX, at(0, false), at(7, true), (h, v) -> h.isPossible(15, v));
        range("28 work", RangeTests::lastLifted, INDEX, at(0, 8), at(15, 1), (h, v) -> h.width(v));
    }

    private static void terms() {
        Checks.Plan lifted = () -> Houses.pass(lastLifted(), 71);
        range("29 work", lifted, INDEX, at(0, false), at(15, true), (h, v) -> h.isProtected(v, 71));
        range("29 year, in the year 0", Houses::wide, ARGUMENT, at(0, true), at(999, false), (h, v) -> h.isProtected(0, v));
        range("29 year, later", lifted, ARGUMENT, at(71, true), at(999, true), (h, v) -> h.isProtected(15, v));
        range("29 year, behind the term", lifted, ARGUMENT, at(71, false), at(999, false), (h, v) -> h.isProtected(0, v));
        range("29 year, in the last year", () -> Houses.pass(Houses.wide(), 500), ARGUMENT, at(500, false), at(999, false), (h, v) -> h.isProtected(0, v));
    }

    private static void rights() {
        Checks.Plan granted = () -> {
            Nomdeplume x = Houses.wide();
            x.grant(0, 'f', 7, 1);
            x.grant(15, 'f', 0, 1);
            return x;
        };
        number("30 work", at(0, 0), at(15, 0), (h, v) -> h.grant(v, 'f', 3, 1));
        number("30 person", at(0, 0), at(7, 0), (h, v) -> h.grant(15, 'f', v, 1));
        range("30 years", Houses::wide, ARGUMENT, at(1, 0), at(99, 98), (h, v) -> h.grant(15, 'p', 3, v));
        range("30 years, later", () -> Houses.pass(Houses.wide(), 70), ARGUMENT, at(1, 70), at(99, 168), (h, v) -> h.grant(15, 'p', 3, v));
        range("31 work", granted, INDEX, at(0, 7), at(15, 0), (h, v) -> h.holder(v, 'f'));
        for (char right : new char[] {'f', 's', 'p'}) {
            range("30 right", Houses::wide, ARGUMENT, at(right, 0), at(right, 0), (h, v) -> h.grant(15, (char) v, 3, 1));
            range("31 right", () -> withAllRights(), ARGUMENT, at(right, 3), at(right, 3), (h, v) -> h.holder(15, (char) v));
        }
    }

    private static Nomdeplume withAllRights() {
        Nomdeplume x = Houses.wide();
        for (char right : new char[] {'f', 's', 'p'}) {
            x.grant(15, right, 3, 1);
        }
        return x;
    }

    private static void money() {
        Checks.Plan paid = () -> {
            Nomdeplume x = Houses.wide();
            x.advance(7, 60);
            x.earn(15, 99);
            return x;
        };
        number("32 name", at(0, 5), at(7, 5), (h, v) -> h.advance(v, 5));
        range("32 cents", Houses::wide, ARGUMENT, at(1, 1), at(99999, 99999), (h, v) -> h.advance(7, v));
        range("33 name", () -> owing(7), INDEX, at(0, 0), at(7, 60), (h, v) -> h.debt(v));
        number("34 work", at(0, 5), at(15, 5), (h, v) -> h.earn(v, 5));
        range("34 cents", Houses::wide, ARGUMENT, at(1, 1), at(99999, 99999), (h, v) -> h.earn(15, v));
        range("34 cents, with a debt", () -> owing(7), ARGUMENT, at(1, 0), at(99999, 99939), (h, v) -> h.earn(15, v));
        range("35 person", paid, INDEX, at(0, 0), at(7, 99), (h, v) -> h.purse(v));
        range("37 asker", paid, INDEX, at(0, 0), at(7, 99), (h, v) -> h.audit(v, v == 7 ? 15 : owner(v)));
        range("37 work", paid, INDEX, at(0, 0), at(15, 99), (h, v) -> h.audit(owner(v), v));
    }

    private static Nomdeplume owing(int name) {
        Nomdeplume x = Houses.wide();
        x.advance(name, 60);
        return x;
    }

    private static void reputations() {
        Checks.Plan praised = () -> {
            Nomdeplume x = lastLifted();
            x.review(7, 13);
            return x;
        };
        range("38 name", praised, INDEX, at(0, 4), at(7, 17), (h, v) -> h.review(v, 4));
        range("38 points", praised, ARGUMENT, at(-20, -7), at(20, 33), (h, v) -> h.review(7, v));
        range("39 name", praised, INDEX, at(0, 0), at(7, 13), (h, v) -> h.reputation(v));
        range("40 person", praised, INDEX, at(0, 0), at(7, 1), (h, v) -> h.scandal(v));
    }

    private static void lettersAndYears() {
        Checks.Plan typed = () -> {
            Nomdeplume x = Houses.wide();
            x.type('x');
            return x;
        };
        range("41 letter", typed, ARGUMENT, at('a', 2), at('z', 2), (h, v) -> h.type((char) v));
        range("42 work", typed, INDEX, at(0, false), at(15, false), (h, v) -> h.verdict(v));
        range("43 years", Houses::wide, ARGUMENT, at(1, 1), at(50, 50), (h, v) -> h.pass(v));
        range("43 years, up to 500", () -> Houses.pass(Houses.wide(), 450), ARGUMENT, at(1, 451), at(50, 500), (h, v) -> h.pass(v));
    }
}
