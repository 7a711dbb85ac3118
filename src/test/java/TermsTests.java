import java.util.NoSuchElementException;

/**
 * The sentences of the document's "Terms" where they meet one another: what each of them still says of
 * who died, of works that are lifted, published or no longer protected, of owners and of heirs, and
 * that nothing else happens beside it. The first sentence, that no answer reveals a link, stands first.
 */
public final class TermsTests {
    private static final Class<?> UNSUPPORTED = UnsupportedOperationException.class;
    private static final Class<?> ELEMENT = NoSuchElementException.class;
    private static final int PUBLIC = -1;
    private static final Checks C = new Checks();

    public static void main(String[] args) {
        nothingIsRevealed();
        hereItWouldShow();
        heirsWhoDied();
        heirsInheritNamesAlone();
        eachNameIsNew();
        licencesOutliveTheirPersons();
        ownersAreNoHands();
        linksOfWhoDied();
        linksAreTold();
        suspicionIsNoLink();
        suspicionAllTheSame();
        questionsOfWhoDied();
        allLinksKnown();
        handsOfLiftedWorks();
        nearWorkThatIsShut();
        termsByTheLastDeath();
        rightsThatAreGiven();
        moneyFollowsShares();
        scandalsFollowLinks();
        verdictsAndYears();
        C.close("TermsTests");
    }

    /**
     * Name 0 is owned by 0, and either 1 or 2, who both have a licence, signed work 0 by it. Person 3
     * signed works 1 and 2 by a name of its own, and told 4 of one of them.
     */
    private static Nomdeplume ghostwritten(int ghost) {
        Nomdeplume x = Houses.people(5);
        x.name(0);
        x.license(0, 1, 0, 9, false);
        x.license(0, 2, 0, 9, false);
        x.sign(0, ghost);
        x.name(3);
        x.sign(1, 3);
        x.sign(1, 3);
        x.tell(3, 4, 2, 3, false);
        return x;
    }

    /** The same house, later: works 0 and 1 are published, far apart, and the veil of work 1 is lifted. */
    private static Nomdeplume ghostwrittenLater(int ghost) {
        Nomdeplume x = ghostwritten(ghost);
        x.write(1, 0, 99);
        x.publish(0);
        x.publish(1);
        Houses.rule(x, 1, "lift");
        x.earn(0, 300);
        x.grant(0, 'f', 4, 3);
        x.scandal(1);
        x.scandal(2);
        return x;
    }

    /** All that the house answers to one asker, or tells the public, of work 0. */
    private static String toldOf(Nomdeplume x, int asker) {
        StringBuilder told = new StringBuilder();
        for (int i = 0; i < 5; i++) {
            told.append(x.ask(asker, 0, i)).append(x.isPossible(0, i));
            if (asker != PUBLIC) {
                int hand = i;
                told.append(x.suspects(asker, 0, i)).append(x.knows(asker, 0, i));
                told.append(Checks.answer(x, h -> h.tell(asker, (asker + 1) % 5, 0, hand, true)));
            }
        }
        told.append(Checks.answer(x, h -> h.audit(asker, 0)));
        return told.append(x.width(0)).append(x.kept()).append(x.reputation(0)).toString();
    }

    private static void nothingIsRevealed() {
        for (int asker : new int[] {PUBLIC, 0, 3, 4}) {
            C.is("19 the same to " + asker, toldOf(ghostwritten(1), asker), toldOf(ghostwritten(2), asker));
            C.is("19 the same later to " + asker, toldOf(ghostwrittenLater(1), asker), toldOf(ghostwrittenLater(2), asker));
            C.is("20 not told " + asker, 5, keptFrom(ghostwritten(1), asker));
            C.is("20 not told later " + asker, 5, keptFrom(ghostwrittenLater(2), asker));
        }
        C.is("28 far works rule out who wrote them alone", 4, ghostwrittenLater(1).width(0));
    }

    private static int keptFrom(Nomdeplume x, int asker) {
        for (int i = 0; i < 5; i++) {
            x.ask(asker, 0, i);
        }
        return x.kept();
    }

    /** The two houses are not the same to who may know, so that the test above can fail. */
    private static void hereItWouldShow() {
        C.is("19 to the hand", false, toldOf(ghostwritten(1), 1).equals(toldOf(ghostwritten(2), 1)));
        Nomdeplume one = ghostwritten(1);
        Nomdeplume two = ghostwritten(2);
        Houses.rule(one, 0, "lift");
        Houses.rule(two, 0, "lift");
        C.is("19 to the public behind a lifted veil", false, toldOf(one, PUBLIC).equals(toldOf(two, PUBLIC)));
    }

    private static void heirsWhoDied() {
        Nomdeplume x = Houses.named();
        x.setHeir(0, 1);
        x.setHeir(2, 1);
        x.die(1);
        C.is("3 an heir who died is still named", 1, x.setHeir(0, 3));
        C.is("3 of the other one, too", 1, x.setHeir(2, 1));
        C.is("4 the new heir's", 1, x.die(0));
        C.is("8 the new heir's", 3, x.owner(0));
    }

    private static void heirsInheritNamesAlone() {
        Nomdeplume x = Houses.town();
        x.earn(0, 50);
        x.die(0);
        C.is("8 the name goes to the heir", 1, x.owner(0));
        C.is("14 no shares do", 0, x.shares(0, 1));
        C.is("14 who died keeps them", 100, x.shares(0, 0));
        C.is("35 no money does", 0, x.purse(1));
        C.is("17 the heir knows no link", false, x.knows(1, 0, 0));
        C.is("19 nor is the heir told it", '?', x.ask(1, 0, 0));
        C.is("21 the veil stays shut", false, x.isLifted(0));
        C.throwsHere("37 the heir is no hand", x, UNSUPPORTED, h -> h.audit(1, 0));
    }

    private static void eachNameIsNew() {
        Nomdeplume x = Houses.shelf(1, 1);
        x.review(0, 7);
        x.advance(0, 5);
        C.is("6 a second name", 1, x.name(0));
        C.is("39 of no reputation", 0, x.reputation(1));
        C.is("33 of no debt", 0, x.debt(1));
        C.is("39 the first one keeps its own", 7, x.reputation(0));
    }

    private static void licencesOutliveTheirPersons() {
        Nomdeplume x = Houses.shelf(3, 0);
        x.license(0, 1, 0, 9, false);
        x.die(0);
        C.is("11 signed by a name that nobody owns", 0, x.sign(0, 1));
        C.is("14 by who has the licence", 100, x.shares(0, 1));
        Nomdeplume y = Houses.shelf(3, 0);
        y.license(0, 1, 5, 9, true);
        y.die(1);
        C.throwsHere("9 a year in common with a licence of who died", y, UNSUPPORTED, h -> h.license(0, 2, 9, 10, false));
        C.is("9 no year in common", 2, y.license(0, 2, 10, 11, false));
    }

    private static void ownersAreNoHands() {
        Nomdeplume x = Houses.shelf(3, 0);
        x.license(0, 1, 0, 9, false);
        x.sign(0, 1);
        C.is("14 no shares for the owner", 0, x.shares(0, 0));
        C.is("17 the owner knows no link", false, x.knows(0, 0, 1));
        C.is("19 the owner is not told", '?', x.ask(0, 0, 1));
        C.is("19 nor of itself", '?', x.ask(0, 0, 0));
        C.is("17 the owner's is none", false, x.knows(1, 0, 0));
        C.throwsHere("37 the owner is no hand", x, UNSUPPORTED, h -> h.audit(0, 0));
        x.sell(0, 2);
        C.is("17 who bought the name knows no link", false, x.knows(2, 0, 1));
        C.is("14 nor has shares", 0, x.shares(0, 2));
    }

    private static void linksOfWhoDied() {
        Nomdeplume x = Houses.shelf(4, 1);
        x.give(0, 0, 2, 10);
        x.tell(0, 1, 0, 0, true);
        x.die(0);
        C.is("17 a hand who died is one", true, x.knows(2, 0, 0));
        C.is("17 and knows it", true, x.knows(0, 0, 2));
        C.is("16 a link of who died is told", 2, x.tell(2, 3, 0, 0, true));
        C.is("16 and told on behind a lifted veil", 3, toldOnBehindLift(x));
        x.die(1);
        C.is("17 who died knows what was told", true, x.knows(1, 0, 0));
    }

    private static int toldOnBehindLift(Nomdeplume x) {
        C.throwsHere("16 not before", x, UNSUPPORTED, h -> h.tell(3, 2, 0, 0, true));
        Houses.rule(x, 0, "lift");
        return x.tell(3, 2, 0, 0, true);
    }

    private static void linksAreTold() {
        Nomdeplume x = Houses.shelf(3, 1);
        x.give(0, 0, 1, 1);
        C.is("16 a hand is told its own link", 1, x.tell(0, 1, 0, 1, true));
        C.is("16 and one that it knows", 2, x.tell(0, 1, 0, 0, true));
        C.is("16 a hand told bound tells on", 3, x.tell(1, 2, 0, 0, false));
        C.is("16 who was told free tells it to a hand", 4, x.tell(2, 0, 0, 0, true));
        x.give(0, 1, 0, 1);
        C.is("16 a hand without shares tells", 5, x.tell(1, 2, 0, 1, true));
        C.is("17 a link of a hand without shares", true, x.knows(2, 0, 1));
    }

    /** Works 0 and 1 are signed by 0, and work 2 by 1, all by name 0; 2 and 1 were told of the first two. */
    private static Nomdeplume suspected() {
        Nomdeplume x = Houses.shelf(4, 2);
        x.license(0, 1, 0, 9, false);
        x.sign(0, 1);
        for (int work = 0; work < 2; work++) {
            x.tell(0, 1, work, 0, false);
            x.tell(0, 2, work, 0, true);
        }
        return x;
    }

    private static void suspicionIsNoLink() {
        Nomdeplume x = suspected();
        x.sign(0, 0);
        C.is("18 suspects", true, x.suspects(1, 3, 0));
        C.is("17 yet does not know", false, x.knows(1, 3, 0));
        C.is("19 nor is told", '?', x.ask(1, 3, 0));
        C.throwsHere("16 nor tells", x, UNSUPPORTED, h -> h.tell(1, 3, 3, 0, true));
    }

    private static void suspicionAllTheSame() {
        Nomdeplume x = suspected();
        C.is("18 of who is no hand", true, x.suspects(2, 2, 0));
        C.is("18 by a hand of that work", true, x.suspects(1, 2, 0));
        C.is("19 who is told otherwise", 'n', x.ask(1, 2, 0));
        x.give(0, 0, 3, 100);
        x.give(1, 0, 3, 100);
        C.is("18 of a hand without shares", true, x.suspects(2, 2, 0));
        C.is("18 not of the other hand", false, x.suspects(2, 2, 3));
        Houses.rule(x, 2, "lift");
        C.is("18 of a work with a lifted veil", true, x.suspects(2, 2, 0));
        x.sell(0, 3);
        C.is("18 whoever owns the name", true, x.suspects(2, 2, 0));
        x.die(0);
        C.is("18 of who died", true, x.suspects(2, 2, 0));
        x.die(2);
        C.is("18 by who died", true, x.suspects(2, 2, 0));
    }

    private static void questionsOfWhoDied() {
        Nomdeplume x = Houses.shelf(4, 1);
        x.tell(0, 1, 0, 0, true);
        x.earn(0, 9);
        x.die(0);
        x.die(1);
        C.is("19 a hand who died is told 'y'", 'y', x.ask(0, 0, 0));
        C.is("19 and 'n'", 'n', x.ask(0, 0, 2));
        C.is("19 who knows and died is told 'y'", 'y', x.ask(1, 0, 0));
        C.is("19 and '?'", '?', x.ask(1, 0, 2));
        C.is("37 a hand who died is told what it earned", 9, x.audit(0, 0));
        Houses.rule(x, 0, "lift");
        C.is("19 of who died, lifted", 'y', x.ask(PUBLIC, 0, 0));
    }

    private static void allLinksKnown() {
        Nomdeplume x = Houses.shelf(4, 1);
        x.give(0, 0, 1, 50);
        x.tell(0, 3, 0, 0, false);
        x.tell(0, 3, 0, 1, false);
        C.is("19 knows the one", 'y', x.ask(3, 0, 0));
        C.is("19 and the other", 'y', x.ask(3, 0, 1));
        C.is("19 not that there is no third", '?', x.ask(3, 0, 2));
        C.is("19 nor of itself", '?', x.ask(3, 0, 3));
        C.is("20 two times", 2, x.kept());
    }

    /** A work by the same hand is far off, which rules nobody out where the veil is lifted. */
    private static void handsOfLiftedWorks() {
        Nomdeplume x = Houses.wide();
        x.write(8, 0, 99);
        x.publish(8);
        Houses.rule(x, 8, "lift");
        Houses.rule(x, 0, "lift");
        C.is("27 its hand", true, x.isPossible(0, 0));
        C.is("28 its hand alone", 1, x.width(0));
        C.is("48 sound", true, x.isSound());
        x.publish(0);
        C.is("27 its hand, published", true, x.isPossible(0, 0));
        x.die(0);
        C.is("27 its hand, who died", true, x.isPossible(0, 0));
        C.is("48 and sound", true, x.isSound());
    }

    private static void nearWorkThatIsShut() {
        Nomdeplume x = Houses.town();
        x.write(2, 0, 99);
        x.sign(1, 1);
        x.publish(0);
        x.publish(2);
        x.publish(3);
        Houses.rule(x, 2, "lift");
        C.is("27 a near work whose veil is shut", false, x.isPossible(0, 1));
        Houses.rule(x, 3, "lift");
        C.is("27 a near work whose veil is lifted", true, x.isPossible(0, 1));
    }

    private static void termsByTheLastDeath() {
        Nomdeplume x = Houses.wide();
        x.give(0, 0, 1, 50);
        Houses.rule(x, 0, "lift");
        x.pass(10);
        x.die(1);
        x.pass(20);
        x.die(0);
        C.is("29 the last died in 30: 100", true, x.isProtected(0, 100));
        C.is("29 the last died in 30: 101", false, x.isProtected(0, 101));
        Nomdeplume y = Houses.wide();
        Houses.rule(y, 0, "lift");
        y.pass(50);
        y.give(0, 0, 7, 1);
        y.die(0);
        C.is("29 a hand who came later is alive", true, y.isProtected(0, 999));
        y.pass(50);
        y.die(7);
        C.is("29 and died in 100: 170", true, y.isProtected(0, 170));
        C.is("29 and died in 100: 171", false, y.isProtected(0, 171));
    }

    private static void rightsThatAreGiven() {
        Nomdeplume x = Houses.wide();
        x.setHeir(1, 2);
        x.grant(0, 'f', 1, 99);
        Houses.rule(x, 0, "lift");
        C.is("31 behind a lifted veil", 1, x.holder(0, 'f'));
        x.give(0, 0, 3, 100);
        C.is("31 by who was first hand", 1, x.holder(0, 'f'));
        x.die(1);
        C.is("31 who died, not the heir", 1, x.holder(0, 'f'));
        C.throwsHere("30 as long as it is given", x, UNSUPPORTED, h -> h.grant(0, 'f', 2, 1));
        C.is("30 to the first hand itself", 0, x.grant(0, 's', 3, 1));
        x.die(3);
        C.is("31 the first hand died", 1, x.holder(0, 'f'));
        Nomdeplume y = Houses.wide();
        y.grant(0, 'p', 1, 99);
        Houses.pass(y, 71);
        C.is("31 no longer protected, and given", 1, y.holder(0, 'p'));
        C.is("30 the same one cannot have it twice", Checks.thrown(UNSUPPORTED), Checks.answer(y, h -> h.grant(0, 'p', 1, 99)));
        Houses.rule(y, 0, "void");
        C.throwsHere("31 ended", y, ELEMENT, h -> h.holder(0, 'p'));
    }

    private static void moneyFollowsShares() {
        Nomdeplume x = Houses.wide();
        x.grant(0, 'f', 1, 99);
        x.earn(0, 100);
        C.is("35 not to who has a right", 0, x.purse(1));
        C.is("35 to who has shares", 100, x.purse(0));
        Houses.pass(x, 71);
        C.is("34 no longer protected", 100, x.earn(0, 100));
        C.is("35 all the same", 200, x.purse(0));
        x.sell(0, 2);
        x.earn(0, 100);
        C.is("35 not to who owns the name", 0, x.purse(2));
        Houses.rule(x, 0, "lift");
        x.publish(0);
        x.earn(0, 100);
        C.is("35 lifted and published", 400, x.purse(0));
        x.advance(0, 30);
        x.die(2);
        C.is("34 a debt of a name that nobody owns", 70, x.earn(0, 100));
        C.is("33 is paid back", 0, x.debt(0));
        C.is("36 nothing to the treasury", 0, x.treasury());
    }

    private static void scandalsFollowLinks() {
        Nomdeplume x = Houses.wide();
        x.publish(0);
        C.is("40 published, the veil shut", 0, x.scandal(0));
        Houses.rule(x, 0, "lift");
        C.is("40 published and lifted", 1, x.scandal(0));
        x.die(0);
        C.is("40 of a name that nobody owns", 1, x.scandal(0));
        Houses.pass(x, 71);
        C.is("29 no longer protected", false, x.isProtected(0, 71));
        C.is("40 all the same", 1, x.scandal(0));
        C.is("39 three times", -90, x.reputation(0));
        C.is("39 no other name", 0, x.reputation(1));
    }

    private static void verdictsAndYears() {
        Nomdeplume x = Houses.wide();
        x.tell(0, 1, 0, 0, true);
        x.tell(0, 2, 0, 0, false);
        x.pass(50);
        C.throwsHere("16 bound behind the years", x, UNSUPPORTED, h -> h.tell(1, 2, 0, 0, true));
        C.is("16 free behind the years", 3, x.tell(2, 3, 0, 0, false));
        Houses.rule(x, 0, "void");
        C.is("16 void binds nobody", 4, x.tell(2, 4, 0, 0, true));
        x.grant(0, 'f', 5, 2);
        Houses.rule(x, 0, "seal");
        C.is("31 seal ends no right", 5, x.holder(0, 'f'));
        C.is("21 nor lifts the veil", false, x.isLifted(0));
        x.give(0, 0, 6, 1);
        C.is("16 a hand tells what was sealed", 5, x.tell(6, 7, 0, 0, true));
        Houses.rule(x, 0, "lift");
        C.is("31 lift ends no right", 5, x.holder(0, 'f'));
        C.is("16 all tell behind it", 6, x.tell(3, 1, 0, 0, true));
    }
}
