import java.util.NoSuchElementException;

/** Promises 29 to 40: terms, rights, money and reputation. */
public final class MoneyTests {
    private static final Class<?> INDEX = IndexOutOfBoundsException.class;
    private static final Class<?> ARGUMENT = IllegalArgumentException.class;
    private static final Class<?> UNSUPPORTED = UnsupportedOperationException.class;
    private static final Checks C = new Checks();

    public static void main(String[] args) {
        promise29ShutVeil();
        promise29LiftedVeil();
        promise29Refused();
        promise30Grant();
        promise30Terms();
        promise30Refused();
        promise31Holder();
        promise32Advance();
        promise33Debt();
        promise34Earn();
        promise34Deaths();
        promise34Refused();
        promise35Purse();
        promise36Treasury();
        promise37Audit();
        promise38Review();
        promise39Reputation();
        promise40Scandal();
        promise40SeveralNames();
        C.close("MoneyTests");
    }

    private static void promise29ShutVeil() {
        Nomdeplume x = Houses.town();
        x.pass(10);
        x.sign(1, 1);
        C.is("29 the last year", true, x.isProtected(0, 70));
        C.is("29 the year behind", false, x.isProtected(0, 71));
        C.is("29 signed later", true, x.isProtected(3, 80));
        C.is("29 signed later, behind", false, x.isProtected(3, 81));
        C.is("29 the year of now", true, x.isProtected(0, 10));
        C.is("29 far off", false, x.isProtected(0, 999));
        Houses.pass(x, 60);
        C.is("29 now in the last year", true, x.isProtected(0, 70));
        x.pass(1);
        C.is("29 now behind it", false, x.isProtected(0, 71));
        x.die(0);
        C.is("29 a death behind a shut veil", false, x.isProtected(0, 71));
    }

    private static void promise29LiftedVeil() {
        Nomdeplume x = Houses.town();
        x.give(0, 0, 1, 100);
        x.give(0, 1, 2, 1);
        Houses.rule(x, 0, "lift");
        C.is("29 lifted, hands alive", true, x.isProtected(0, 999));
        Houses.pass(x, 100);
        C.is("29 now, hands alive", true, x.isProtected(0, 100));
        x.die(1);
        x.pass(5);
        x.die(0);
        C.is("29 one hand is alive", true, x.isProtected(0, 999));
        x.pass(5);
        x.die(2);
        C.is("29 the last of its hands", true, x.isProtected(0, 180));
        C.is("29 behind it", false, x.isProtected(0, 181));
        Nomdeplume y = Houses.town();
        y.die(0);
        y.pass(9);
        Houses.rule(y, 0, "lift");
        C.is("29 lifted behind the death", true, y.isProtected(0, 70));
        C.is("29 no longer", false, y.isProtected(0, 71));
        Nomdeplume z = Houses.town();
        Houses.pass(z, 90);
        C.is("29 free", false, z.isProtected(0, 90));
        Houses.rule(z, 0, "lift");
        C.is("29 bound again", true, z.isProtected(0, 90));
    }

    private static void promise29Refused() {
        Checks.Plan later = () -> {
            Nomdeplume x = Houses.town();
            x.pass(3);
            return x;
        };
        C.refused("29 no such work", Houses::town, INDEX, h -> h.isProtected(3, 1));
        C.refused("29 work -1", Houses::town, INDEX, h -> h.isProtected(-1, 1));
        C.refused("29 index before range", Houses::town, INDEX, h -> h.isProtected(3, 1000));
        C.refused("29 year 1000", Houses::town, ARGUMENT, h -> h.isProtected(0, 1000));
        C.refused("29 before now", later, ARGUMENT, h -> h.isProtected(0, 2));
    }

    private static void promise30Grant() {
        Nomdeplume x = Houses.town();
        x.pass(4);
        C.is("30 one year", 4, x.grant(0, 'f', 1, 1));
        C.is("30 another right", 102, x.grant(0, 's', 0, 99));
        C.is("30 the third", 5, x.grant(0, 'p', 2, 2));
        C.is("30 another work", 8, x.grant(1, 'f', 1, 5));
        C.is("30 given", "throws." + UNSUPPORTED.getName(), Checks.answer(x, h -> h.grant(0, 'f', 2, 1)));
        x.pass(1);
        C.is("30 its last year", "throws." + UNSUPPORTED.getName(), Checks.answer(x, h -> h.grant(0, 'p', 2, 1)));
        C.is("30 behind its last year", 6, x.grant(0, 'f', 2, 2));
        C.is("30 holder then", 2, x.holder(0, 'f'));
    }

    private static void promise30Terms() {
        Nomdeplume x = Houses.town();
        Houses.pass(x, 70);
        C.is("30 in the last year of the term", 168, x.grant(0, 'f', 1, 99));
        x.pass(1);
        C.is("30 behind the term", "throws." + UNSUPPORTED.getName(), Checks.answer(x, h -> h.grant(0, 's', 1, 1)));
        Houses.rule(x, 0, "lift");
        C.is("30 behind the term, lifted", 71, x.grant(0, 's', 1, 1));
        Nomdeplume y = Houses.town();
        y.give(0, 0, 1, 51);
        y.die(0);
        C.is("30 a lesser hand died", 0, y.grant(0, 'f', 2, 1));
        y.pass(1);
        y.die(1);
        C.is("30 a right given stays with its holder", 4, Houses.town().grant(0, 'f', 1, 5));
    }

    private static void promise30Refused() {
        C.refused("30 no such work", Houses::town, INDEX, h -> h.grant(3, 'f', 0, 1));
        C.refused("30 work -1", Houses::town, INDEX, h -> h.grant(-1, 'f', 0, 1));
        C.refused("30 no such person", Houses::town, INDEX, h -> h.grant(0, 'f', 4, 1));
        C.refused("30 person -1", Houses::town, INDEX, h -> h.grant(0, 'f', -1, 1));
        C.refused("30 index before right", Houses::town, INDEX, h -> h.grant(0, 'x', 4, 0));
        C.refused("30 right x", Houses::town, ARGUMENT, h -> h.grant(0, 'x', 0, 1));
        C.refused("30 right F", Houses::town, ARGUMENT, h -> h.grant(0, 'F', 0, 1));
        C.refused("30 right 0", Houses::town, ARGUMENT, h -> h.grant(0, (char) 0, 0, 1));
        C.refused("30 a sign above 255", Houses::town, ARGUMENT, h -> h.grant(0, (char) ('f' + 256), 0, 1));
        C.refused("30 years 0", Houses::town, ARGUMENT, h -> h.grant(0, 'f', 0, 0));
        C.refused("30 years 100", Houses::town, ARGUMENT, h -> h.grant(0, 'f', 0, 100));
        C.refused("30 range before death", Houses::town, ARGUMENT, h -> h.grant(0, 'f', 3, 100));
        C.refused("30 right before death", Houses::town, ARGUMENT, h -> h.grant(0, 'x', 3, 1));
        C.refused("30 no such work before right", Houses::town, INDEX, h -> h.grant(3, 'x', 0, 1));
        C.refused("30 no such work before range", Houses::town, INDEX, h -> h.grant(3, 'f', 0, 100));
        C.refused("30 no such work before death", Houses::town, INDEX, h -> h.grant(3, 'f', 3, 1));
        C.refused("30 index before given", MoneyTests::granted, INDEX, h -> h.grant(0, 'f', 4, 1));
        C.refused("30 range before given", MoneyTests::granted, ARGUMENT, h -> h.grant(0, 'f', 2, 0));
        C.refused("30 index before the term", MoneyTests::outOfTerm, INDEX, h -> h.grant(0, 'f', 4, 1));
        C.refused("30 range before the term", MoneyTests::outOfTerm, ARGUMENT, h -> h.grant(0, 'f', 2, 100));
        C.refused("30 right before the term", MoneyTests::outOfTerm, ARGUMENT, h -> h.grant(0, 'x', 2, 1));
        C.refused("30 behind the term", MoneyTests::outOfTerm, UNSUPPORTED, h -> h.grant(0, 'f', 2, 1));
        C.refused("30 index before the first hand", MoneyTests::firstHandDied, INDEX, h -> h.grant(0, 'f', 4, 1));
        C.refused("30 range before the first hand", MoneyTests::firstHandDied, ARGUMENT, h -> h.grant(0, 'f', 2, 0));
        C.refused("30 to who died", Houses::town, UNSUPPORTED, h -> h.grant(0, 'f', 3, 1));
        C.refused("30 given", MoneyTests::granted, UNSUPPORTED, h -> h.grant(0, 'f', 2, 9));
        C.refused("30 the first hand died", MoneyTests::firstHandDied, UNSUPPORTED, h -> h.grant(0, 'f', 2, 1));
    }

    private static Nomdeplume granted() {
        Nomdeplume x = Houses.town();
        x.grant(0, 'f', 1, 3);
        return x;
    }

    private static Nomdeplume outOfTerm() {
        return Houses.pass(Houses.town(), 71);
    }

    private static Nomdeplume firstHandDied() {
        Nomdeplume x = Houses.town();
        x.give(0, 0, 1, 10);
        x.die(0);
        return x;
    }

    private static void promise31Holder() {
        Nomdeplume x = granted();
        C.is("31 holder", 1, x.holder(0, 'f'));
        x.pass(2);
        C.is("31 its last year", 1, x.holder(0, 'f'));
        x.give(0, 0, 2, 100);
        x.die(1);
        C.is("31 who died has it", 1, x.holder(0, 'f'));
        x.pass(1);
        C.is("31 behind it", "throws." + NoSuchElementException.class.getName(), Checks.answer(x, h -> h.holder(0, 'f')));
        C.refused("31 no such work", Houses::town, INDEX, h -> h.holder(3, 'f'));
        C.refused("31 work -1", Houses::town, INDEX, h -> h.holder(-1, 'f'));
        C.refused("31 index before right", Houses::town, INDEX, h -> h.holder(3, 'x'));
        C.refused("31 right x", MoneyTests::granted, ARGUMENT, h -> h.holder(0, 'x'));
        C.refused("31 not given", MoneyTests::granted, NoSuchElementException.class, h -> h.holder(0, 's'));
        C.refused("31 of another work", MoneyTests::granted, NoSuchElementException.class, h -> h.holder(1, 'f'));
    }

    private static void promise32Advance() {
        Nomdeplume x = Houses.town();
        C.is("32 debt then", 1, x.advance(0, 1));
        C.is("32 more", 100000, x.advance(0, 99999));
        C.is("32 to the owner", 100000, x.purse(0));
        C.is("32 another name", 7, x.advance(1, 7));
        x.sell(0, 2);
        C.is("32 the debt stays with the name", 100003, x.advance(0, 3));
        C.is("32 the new owner", 3, x.purse(2));
        C.is("32 the old one", 100000, x.purse(0));
        C.is("32 sound", true, x.isSound());
        C.refused("32 no such name", Houses::town, INDEX, h -> h.advance(3, 1));
        C.refused("32 name -1", Houses::town, INDEX, h -> h.advance(-1, 1));
        C.refused("32 index before range", Houses::town, INDEX, h -> h.advance(3, 0));
        C.refused("32 none", Houses::town, ARGUMENT, h -> h.advance(0, 0));
        C.refused("32 below", Houses::town, ARGUMENT, h -> h.advance(0, -1));
        C.refused("32 above", Houses::town, ARGUMENT, h -> h.advance(0, 100000));
        C.refused("32 range before nobody", Houses::town, ARGUMENT, h -> h.advance(2, 0));
        C.refused("32 nobody owns it", Houses::town, UNSUPPORTED, h -> h.advance(2, 1));
    }

    private static void promise33Debt() {
        Nomdeplume x = Houses.town();
        C.is("33 at first", 0, x.debt(0));
        x.advance(0, 500);
        C.is("33 an advance", 500, x.debt(0));
        C.is("33 another name", 0, x.debt(1));
        x.earn(1, 200);
        C.is("33 paid back in part", 300, x.debt(0));
        x.die(0);
        C.is("33 a death leaves it", 300, x.debt(0));
        x.earn(0, 1000);
        C.is("33 paid back", 0, x.debt(0));
        C.refused("33 no such name", Houses::town, INDEX, h -> h.debt(3));
        C.refused("33 name -1", Houses::town, INDEX, h -> h.debt(-1));
    }

    private static void promise34Earn() {
        Nomdeplume x = Houses.town();
        C.is("34 all to the one", 99999, x.earn(2, 99999));
        C.is("34 purse", 99999, x.purse(1));
        x.give(0, 0, 1, 33);
        x.give(0, 0, 2, 33);
        C.is("34 cut", 10, x.earn(0, 10));
        C.is("34 what is left to the first hand", 4, x.purse(0));
        C.is("34 by hundredths", 100002, x.purse(1));
        C.is("34 by hundredths, too", 3, x.purse(2));
        x.advance(0, 50);
        C.is("34 debt first", 0, x.earn(0, 20));
        C.is("34 then", 1, x.earn(0, 31));
        C.is("34 one cent", 4 + 50 + 1, x.purse(0));
        C.is("34 the other name's debt does not count", 100, payOther());
        C.is("34 sound", true, x.isSound());
        x.give(0, 0, 1, 34);
        x.earn(0, 100);
        C.is("34 who gave all away gets none", 55, x.purse(0));
        C.is("34 67 of 100", 100002 + 67, x.purse(1));
        x.give(2, 1, 0, 40);
        x.earn(2, 9);
        C.is("34 the lowest person is not the first hand", 55 + 3, x.purse(0));
        C.is("34 who is one", 100002 + 67 + 6, x.purse(1));
    }

    private static long payOther() {
        Nomdeplume x = Houses.town();
        x.advance(1, 70);
        return x.earn(0, 100);
    }

    private static void promise34Deaths() {
        Nomdeplume x = Houses.town();
        x.give(0, 0, 1, 30);
        x.give(0, 0, 2, 20);
        x.die(0);
        C.is("34 also what goes to an heir", 101, x.earn(0, 101));
        C.is("34 the heir", 50 + 30 + 1, x.purse(1));
        C.is("34 who died", 0, x.purse(0));
        C.is("34 another", 20, x.purse(2));
        x.die(1);
        C.is("34 also what goes to the treasury", 101, x.earn(0, 101));
        C.is("34 treasury", 50 + 1 + 30, x.treasury());
        C.is("34 the heir who died", 81, x.purse(1));
        C.is("34 another again", 40, x.purse(2));
        C.is("34 sound", true, x.isSound());
        Nomdeplume y = Houses.town();
        y.setHeir(1, 2);
        y.die(1);
        y.die(0);
        y.earn(0, 10);
        C.is("34 no heir of the heir", 0, y.purse(2));
        C.is("34 but the treasury", 10, y.treasury());
    }

    private static void promise34Refused() {
        C.refused("34 no such work", Houses::town, INDEX, h -> h.earn(3, 1));
        C.refused("34 work -1", Houses::town, INDEX, h -> h.earn(-1, 1));
        C.refused("34 index before range", Houses::town, INDEX, h -> h.earn(3, 0));
        C.refused("34 none", Houses::town, ARGUMENT, h -> h.earn(0, 0));
        C.refused("34 below", Houses::town, ARGUMENT, h -> h.earn(0, Integer.MIN_VALUE));
        C.refused("34 above", Houses::town, ARGUMENT, h -> h.earn(0, 100000));
    }

    private static void promise35Purse() {
        Nomdeplume x = Houses.town();
        C.is("35 at first", 0, x.purse(0));
        x.earn(0, 12);
        C.is("35 earned", 12, x.purse(0));
        x.advance(0, 5);
        C.is("35 advanced", 17, x.purse(0));
        x.die(0);
        C.is("35 a death leaves it", 17, x.purse(0));
        C.is("35 the heir's", 0, x.purse(1));
        C.refused("35 no such person", Houses::town, INDEX, h -> h.purse(4));
        C.refused("35 person -1", Houses::town, INDEX, h -> h.purse(-1));
    }

    private static void promise36Treasury() {
        Nomdeplume x = Houses.town();
        x.give(2, 1, 2, 40);
        x.earn(2, 99);
        C.is("36 all alive", 0, x.treasury());
        x.die(2);
        x.earn(2, 99);
        C.is("36 one died without an heir", 39, x.treasury());
        x.setHeir(1, 2);
        x.die(1);
        x.earn(2, 99);
        C.is("36 one whose heir died", 39 + 99, x.treasury());
    }

    private static void promise37Audit() {
        Nomdeplume x = Houses.town();
        C.is("37 nothing yet", 0, x.audit(0, 0));
        x.advance(0, 500);
        x.earn(0, 300);
        C.is("37 what paid back counts", 300, x.audit(0, 0));
        x.earn(0, 99999);
        C.is("37 so far", 100299, x.audit(0, 0));
        C.is("37 another work", 0, x.audit(0, 1));
        x.give(0, 0, 2, 1);
        x.give(0, 2, 1, 1);
        C.is("37 who had some", 100299, x.audit(2, 0));
        Houses.rule(x, 2, "lift");
        C.is("37 lifted, no hand", "throws." + UNSUPPORTED.getName(), Checks.answer(x, h -> h.audit(0, 2)));
        x.tell(0, 2, 1, 0, false);
        C.is("37 told, no hand", "throws." + UNSUPPORTED.getName(), Checks.answer(x, h -> h.audit(2, 1)));
        C.refused("37 no such asker", Houses::town, INDEX, h -> h.audit(4, 0));
        C.refused("37 asker -1", Houses::town, INDEX, h -> h.audit(-1, 0));
        C.refused("37 no such work", Houses::town, INDEX, h -> h.audit(0, 3));
        C.refused("37 work -1", Houses::town, INDEX, h -> h.audit(0, -1));
        C.refused("37 no such asker nor work", Houses::town, INDEX, h -> h.audit(4, 3));
        C.refused("37 no hand", Houses::town, UNSUPPORTED, h -> h.audit(1, 0));
    }

    private static void promise38Review() {
        Nomdeplume x = Houses.town();
        C.is("38 up", 20, x.review(0, 20));
        C.is("38 none", 20, x.review(0, 0));
        C.is("38 down", 0, x.review(0, -20));
        C.is("38 nobody's name, too", -5, x.review(2, -5));
        for (int i = 0; i < 4; i++) {
            x.review(0, 20);
            x.review(1, -20);
        }
        C.is("38 99 at most", 99, x.review(0, 20));
        C.is("38 from there", 98, x.review(0, -1));
        C.is("38 -99 at least", -99, x.review(1, -20));
        C.is("38 from there, too", -98, x.review(1, 1));
        C.refused("38 no such name", Houses::town, INDEX, h -> h.review(3, 1));
        C.refused("38 name -1", Houses::town, INDEX, h -> h.review(-1, 1));
        C.refused("38 index before range", Houses::town, INDEX, h -> h.review(3, 21));
        C.refused("38 points 21", Houses::town, ARGUMENT, h -> h.review(0, 21));
        C.refused("38 points -21", Houses::town, ARGUMENT, h -> h.review(0, -21));
    }

    private static void promise39Reputation() {
        Nomdeplume x = Houses.town();
        C.is("39 at first", 0, x.reputation(0));
        x.review(0, 3);
        C.is("39 reviewed", 3, x.reputation(0));
        C.is("39 another", 0, x.reputation(1));
        x.sell(0, 2);
        C.is("39 a sale leaves it", 3, x.reputation(0));
        C.refused("39 no such name", Houses::town, INDEX, h -> h.reputation(3));
        C.refused("39 name -1", Houses::town, INDEX, h -> h.reputation(-1));
    }

    private static void promise40Scandal() {
        Nomdeplume x = Houses.town();
        C.is("40 all shut", 0, x.scandal(0));
        C.is("40 nothing lost", 0, x.reputation(0));
        Houses.rule(x, 0, "lift");
        Houses.rule(x, 1, "lift");
        C.is("40 two works of one name", 1, x.scandal(0));
        C.is("40 once", -30, x.reputation(0));
        C.is("40 who is no hand", 0, x.scandal(1));
        C.is("40 nothing lost then", -30, x.reputation(0));
        x.review(0, -10);
        x.scandal(0);
        x.scandal(0);
        C.is("40 -99 at least", 1, x.scandal(0));
        C.is("40 the least", -99, x.reputation(0));
        C.is("40 touched at the least, too", 1, x.scandal(0));
        C.is("40 another name", 0, x.reputation(1));
        x.die(0);
        C.is("40 of who died", 1, x.scandal(0));
        C.refused("40 no such person", Houses::town, INDEX, h -> h.scandal(4));
        C.refused("40 person -1", Houses::town, INDEX, h -> h.scandal(-1));
    }

    private static void promise40SeveralNames() {
        Nomdeplume x = Houses.town();
        x.give(2, 1, 0, 1);
        x.give(2, 0, 1, 1);
        Houses.rule(x, 0, "lift");
        C.is("40 one lifted", 1, x.scandal(0));
        Houses.rule(x, 2, "lift");
        C.is("40 both lifted", 2, x.scandal(0));
        C.is("40 name 0", -60, x.reputation(0));
        C.is("40 name 1, a hand without shares", -30, x.reputation(1));
        C.is("40 a name without works", 0, x.reputation(2));
        x.sell(0, 2);
        C.is("40 the owner is no hand", 0, x.scandal(2));
    }
}
