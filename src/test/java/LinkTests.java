/** Promises 13 to 21: shares, links and questions. */
public final class LinkTests {
    private static final Class<?> INDEX = IndexOutOfBoundsException.class;
    private static final Class<?> ARGUMENT = IllegalArgumentException.class;
    private static final Class<?> UNSUPPORTED = UnsupportedOperationException.class;
    private static final Class<?> STATE = IllegalStateException.class;
    private static final Checks C = new Checks();

    public static void main(String[] args) {
        promise13Give();
        promise13Refused();
        promise14Shares();
        promise15FirstHand();
        promise16Tell();
        promise16BoundAndFree();
        promise16Refused();
        promise16Sixty();
        promise17Knows();
        promise18Suspects();
        promise18NamesAndPersons();
        promise19Ask();
        promise19Refused();
        promise20Kept();
        promise21IsLifted();
        C.close("LinkTests");
    }

    private static void promise13Give() {
        Nomdeplume x = Houses.town();
        C.is("13 give", 30, x.give(0, 0, 1, 30));
        C.is("13 left", 70, x.shares(0, 0));
        C.is("13 more", 31, x.give(0, 0, 1, 1));
        C.is("13 on to a third", 31, x.give(0, 1, 2, 31));
        C.is("13 who had some stays a hand", true, x.knows(1, 0, 1));
        C.is("13 all of it", 100, x.give(1, 0, 1, 100));
        C.is("13 who had all stays a hand", true, x.knows(2, 0, 0));
        C.is("13 other works stay", 100, x.shares(2, 1));
        C.is("13 sound", true, x.isSound());
    }

    private static void promise13Refused() {
        C.refused("13 no such work", Houses::town, INDEX, h -> h.give(3, 0, 1, 1));
        C.refused("13 work -1", Houses::town, INDEX, h -> h.give(-1, 0, 1, 1));
        C.refused("13 no such giver", Houses::town, INDEX, h -> h.give(0, 4, 1, 1));
        C.refused("13 no such taker", Houses::town, INDEX, h -> h.give(0, 0, 4, 1));
        C.refused("13 giver -1", Houses::town, INDEX, h -> h.give(0, -1, 1, 1));
        C.refused("13 taker -1", Houses::town, INDEX, h -> h.give(0, 0, -1, 1));
        C.refused("13 index before range", Houses::town, INDEX, h -> h.give(0, 4, 4, 0));
        C.refused("13 the same", Houses::town, ARGUMENT, h -> h.give(0, 0, 0, 1));
        C.refused("13 none", Houses::town, ARGUMENT, h -> h.give(0, 0, 1, 0));
        C.refused("13 below none", Houses::town, ARGUMENT, h -> h.give(0, 0, 1, -1));
        C.refused("13 above all", Houses::town, ARGUMENT, h -> h.give(0, 0, 1, 101));
        C.refused("13 range before death", Houses::town, ARGUMENT, h -> h.give(0, 0, 3, 101));
        C.refused("13 range before fewer", LinkTests::shared, ARGUMENT, h -> h.give(0, 1, 0, 101));
        C.refused("13 no such taker before death", Houses::town, INDEX, h -> h.give(0, 3, 4, 1));
        C.refused("13 no such giver before death", Houses::town, INDEX, h -> h.give(0, 4, 3, 1));
        C.refused("13 no such work before death", Houses::town, INDEX, h -> h.give(3, 0, 3, 1));
        C.refused("13 no such work before the same", Houses::town, INDEX, h -> h.give(3, 0, 0, 1));
        C.refused("13 the same who has none", Houses::town, ARGUMENT, h -> h.give(0, 3, 3, 1));
        C.refused("13 fewer", LinkTests::shared, UNSUPPORTED, h -> h.give(0, 1, 0, 31));
        C.refused("13 to who died", Houses::town, UNSUPPORTED, h -> h.give(0, 0, 3, 1));
        C.refused("13 from who died", LinkTests::deadHand, UNSUPPORTED, h -> h.give(0, 1, 0, 1));
    }

    /** Person 1 has 30 shares of work 0. */
    private static Nomdeplume shared() {
        Nomdeplume x = Houses.town();
        x.give(0, 0, 1, 30);
        return x;
    }

    private static Nomdeplume deadHand() {
        Nomdeplume x = shared();
        x.die(1);
        return x;
    }

    private static void promise14Shares() {
        Nomdeplume x = deadHand();
        C.is("14 left", 70, x.shares(0, 0));
        C.is("14 who died keeps them", 30, x.shares(0, 1));
        C.is("14 none", 0, x.shares(0, 2));
        C.is("14 another work", 100, x.shares(1, 0));
        C.refused("14 no such work", Houses::town, INDEX, h -> h.shares(3, 0));
        C.refused("14 work -1", Houses::town, INDEX, h -> h.shares(-1, 0));
        C.refused("14 no such person", Houses::town, INDEX, h -> h.shares(0, 4));
        C.refused("14 person -1", Houses::town, INDEX, h -> h.shares(0, -1));
    }

    private static void promise15FirstHand() {
        Nomdeplume x = Houses.town();
        C.is("15 signer", 1, x.firstHand(2));
        x.give(2, 1, 2, 50);
        C.is("15 of like ones the lowest", 1, x.firstHand(2));
        x.give(2, 1, 2, 1);
        C.is("15 the most", 2, x.firstHand(2));
        x.give(2, 2, 0, 26);
        C.is("15 of three", 1, x.firstHand(2));
        x.give(2, 1, 0, 12);
        C.is("15 the lowest has the most", 0, x.firstHand(2));
        x.die(0);
        C.is("15 who died stays it", 0, x.firstHand(2));
        C.is("15 another work", 0, x.firstHand(0));
        C.refused("15 no such work", Houses::town, INDEX, h -> h.firstHand(3));
        C.refused("15 work -1", Houses::town, INDEX, h -> h.firstHand(-1));
    }

    private static void promise16Tell() {
        Nomdeplume x = Houses.town();
        C.is("16 first", 1, x.tell(0, 1, 0, 0, true));
        C.is("16 again", 2, x.tell(0, 1, 0, 0, true));
        C.is("16 a hand to itself is known", 3, x.tell(1, 0, 2, 1, false));
        C.is("16 is known then", true, x.knows(1, 0, 0));
        C.is("16 of that work alone", false, x.knows(1, 1, 0));
        C.is("16 by the listener alone", false, x.knows(2, 0, 0));
        x.give(0, 0, 2, 10);
        C.is("16 of that hand alone", false, x.knows(1, 0, 2));
        C.is("16 a new hand tells", 4, x.tell(2, 1, 0, 0, true));
    }

    private static void promise16BoundAndFree() {
        Checks.Call onward = h -> h.tell(1, 2, 0, 0, false);
        C.refused("16 told bound", () -> told(true), UNSUPPORTED, onward);
        C.is("16 told free", 2, Checks.answer(told(false), onward));
        Nomdeplume both = told(true);
        both.tell(0, 1, 0, 0, false);
        C.is("16 told bound, then free", 3, Checks.answer(both, onward));
        Nomdeplume free = told(false);
        free.tell(0, 1, 0, 0, true);
        C.is("16 told free, then bound", 3, Checks.answer(free, onward));
        Nomdeplume hand = told(true);
        hand.give(0, 0, 1, 1);
        C.is("16 told bound, then a hand", 2, Checks.answer(hand, onward));
        Nomdeplume open = told(true);
        Houses.rule(open, 0, "lift");
        C.is("16 told bound, then lifted", 2, Checks.answer(open, onward));
        C.is("16 all tell what is lifted", 3, open.tell(2, 1, 0, 0, true));
        Nomdeplume other = told(false);
        other.tell(0, 1, 1, 0, true);
        C.is("16 free of another work", "throws." + UNSUPPORTED.getName(), Checks.answer(other, h -> h.tell(1, 2, 1, 0, true)));
        Nomdeplume two = told(false);
        two.tell(0, 2, 0, 0, false);
        C.is("16 two listeners know", true, two.knows(1, 0, 0) && two.knows(2, 0, 0));
        C.is("16 the first tells on", 3, Checks.answer(two, onward));
        C.is("16 the second, too", 4, two.tell(2, 1, 0, 0, false));
        Nomdeplume second = told(false);
        second.give(0, 0, 2, 1);
        second.tell(0, 1, 0, 2, true);
        C.is("16 free of another hand", "throws." + UNSUPPORTED.getName(), Checks.answer(second, h -> h.tell(1, 2, 0, 2, true)));
    }

    /** Person 1 was told that 0 is a hand of work 0. */
    private static Nomdeplume told(boolean isBound) {
        Nomdeplume x = Houses.town();
        x.tell(0, 1, 0, 0, isBound);
        return x;
    }

    private static void promise16Refused() {
        C.refused("16 no such teller", Houses::town, INDEX, h -> h.tell(4, 1, 0, 0, true));
        C.refused("16 no such listener", Houses::town, INDEX, h -> h.tell(0, 4, 0, 0, true));
        C.refused("16 no such hand", Houses::town, INDEX, h -> h.tell(0, 1, 0, 4, true));
        C.refused("16 no such work", Houses::town, INDEX, h -> h.tell(0, 1, 3, 0, true));
        C.refused("16 teller -1", Houses::town, INDEX, h -> h.tell(-1, 1, 0, 0, true));
        C.refused("16 listener -1", Houses::town, INDEX, h -> h.tell(0, -1, 0, 0, true));
        C.refused("16 hand -1", Houses::town, INDEX, h -> h.tell(0, 1, 0, -1, true));
        C.refused("16 work -1", Houses::town, INDEX, h -> h.tell(0, 1, -1, 0, true));
        C.refused("16 index before the same", Houses::town, INDEX, h -> h.tell(0, 0, 3, 0, true));
        C.refused("16 no such one twice", Houses::town, INDEX, h -> h.tell(4, 4, 0, 0, true));
        C.refused("16 no such hand before death", Houses::town, INDEX, h -> h.tell(3, 1, 0, 4, true));
        C.refused("16 no such teller before death", Houses::town, INDEX, h -> h.tell(4, 3, 0, 0, true));
        C.refused("16 no such listener before death", Houses::town, INDEX, h -> h.tell(3, 4, 0, 0, true));
        C.refused("16 no such work before what is not known", Houses::town, INDEX, h -> h.tell(1, 2, 3, 0, true));
        C.refused("16 the same", Houses::town, ARGUMENT, h -> h.tell(0, 0, 0, 0, true));
        C.refused("16 the same, who does not know", Houses::town, ARGUMENT, h -> h.tell(3, 3, 0, 0, true));
        C.refused("16 to who died", Houses::town, UNSUPPORTED, h -> h.tell(0, 3, 0, 0, true));
        C.refused("16 from who died", LinkTests::deadHand, UNSUPPORTED, h -> h.tell(1, 2, 0, 0, true));
        C.refused("16 not known", Houses::town, UNSUPPORTED, h -> h.tell(1, 2, 0, 0, true));
        C.refused("16 no hand", Houses::town, UNSUPPORTED, h -> h.tell(0, 1, 0, 2, true));
        C.refused("16 no hand, lifted", LinkTests::lifted, UNSUPPORTED, h -> h.tell(0, 1, 0, 2, true));
    }

    private static void promise16Sixty() {
        C.refused("16 a 61st", LinkTests::sixty, STATE, h -> h.tell(0, 1, 0, 0, false));
        C.refused("16 a 61st to who died", LinkTests::sixty, UNSUPPORTED, h -> h.tell(0, 3, 0, 0, false));
        C.refused("16 a 61st not known", LinkTests::sixty, UNSUPPORTED, h -> h.tell(1, 0, 1, 0, false));
        C.refused("16 a 61st to oneself", LinkTests::sixty, ARGUMENT, h -> h.tell(0, 0, 0, 0, false));
        C.refused("16 a 61st by who is bound", LinkTests::sixty, UNSUPPORTED, h -> h.tell(1, 2, 0, 0, false));
        C.refused("16 a 61st by nobody", LinkTests::sixty, INDEX, h -> h.tell(4, 1, 0, 0, false));
        C.refused("16 a 61st to nobody", LinkTests::sixty, INDEX, h -> h.tell(0, 4, 0, 0, false));
        C.refused("16 a 61st of no work", LinkTests::sixty, INDEX, h -> h.tell(0, 1, 3, 0, false));
        C.refused("16 a 61st of nobody", LinkTests::sixty, INDEX, h -> h.tell(0, 1, 0, 4, false));
    }

    private static Nomdeplume sixty() {
        Nomdeplume x = Houses.town();
        for (int i = 1; i <= 60; i++) {
            C.is("16 told", i, x.tell(0, 1 + i % 2, 0, 0, true));
        }
        return x;
    }

    private static Nomdeplume lifted() {
        Nomdeplume x = Houses.town();
        Houses.rule(x, 0, "lift");
        return x;
    }

    private static void promise17Knows() {
        Nomdeplume x = shared();
        C.is("17 hand of itself", true, x.knows(0, 0, 0));
        C.is("17 hand of the other hand", true, x.knows(1, 0, 0));
        C.is("17 and back", true, x.knows(0, 0, 1));
        C.is("17 no hand", false, x.knows(0, 0, 2));
        C.is("17 stranger", false, x.knows(2, 0, 0));
        x.tell(1, 2, 0, 0, true);
        C.is("17 told", true, x.knows(2, 0, 0));
        C.is("17 not of the other hand", false, x.knows(2, 0, 1));
        Houses.rule(x, 0, "lift");
        C.is("17 lifted", true, x.knows(2, 0, 1));
        C.is("17 lifted, who died", true, x.knows(3, 0, 1));
        C.is("17 lifted, no hand", false, x.knows(3, 0, 3));
        x.give(0, 0, 2, 5);
        C.is("17 links that come later", true, x.knows(3, 0, 2));
        C.is("17 another work", false, x.knows(2, 1, 0));
        C.is("17 a later hand of a shut work", 1, laterHand().shares(0, 2));
        C.is("17 knows all its links", true, laterHand().knows(2, 0, 1));
        C.refused("17 no such person", Houses::town, INDEX, h -> h.knows(4, 0, 0));
        C.refused("17 no such work", Houses::town, INDEX, h -> h.knows(0, 3, 0));
        C.refused("17 no such hand", Houses::town, INDEX, h -> h.knows(0, 0, 4));
        C.refused("17 person -1", Houses::town, INDEX, h -> h.knows(-1, 0, 0));
        C.refused("17 work -1", Houses::town, INDEX, h -> h.knows(0, -1, 0));
        C.refused("17 hand -1", Houses::town, INDEX, h -> h.knows(0, 0, -1));
    }

    private static Nomdeplume laterHand() {
        Nomdeplume x = shared();
        x.give(0, 0, 2, 1);
        return x;
    }

    private static void promise18Suspects() {
        Nomdeplume x = Houses.shelf(3, 4);
        x.tell(0, 1, 0, 0, true);
        C.is("18 one link", false, x.suspects(1, 2, 0));
        x.tell(0, 1, 1, 0, true);
        C.is("18 two links", true, x.suspects(1, 2, 0));
        C.is("18 two links, yet another work", true, x.suspects(1, 3, 0));
        C.is("18 one of the two", false, x.suspects(1, 0, 0));
        C.is("18 the other of the two", false, x.suspects(1, 1, 0));
        C.is("18 somebody else", false, x.suspects(1, 2, 2));
        C.is("18 who was told nothing", false, x.suspects(2, 2, 0));
        x.tell(0, 1, 2, 0, false);
        C.is("18 also of a known one, behind two others", true, x.suspects(1, 0, 0));
        Houses.rule(x, 0, "lift");
        C.is("18 one lifted", false, x.suspects(2, 3, 0));
        Houses.rule(x, 3, "lift");
        C.is("18 two lifted", true, x.suspects(2, 1, 0));
        C.is("18 hands themselves", true, x.suspects(0, 1, 0));
        C.refused("18 no such person", Houses::town, INDEX, h -> h.suspects(4, 0, 0));
        C.refused("18 no such work", Houses::town, INDEX, h -> h.suspects(0, 3, 0));
        C.refused("18 no such other", Houses::town, INDEX, h -> h.suspects(0, 0, 4));
        C.refused("18 person -1", Houses::town, INDEX, h -> h.suspects(-1, 0, 0));
        C.refused("18 work -1", Houses::town, INDEX, h -> h.suspects(0, -1, 0));
        C.refused("18 other -1", Houses::town, INDEX, h -> h.suspects(0, 0, -1));
    }

    private static void promise18NamesAndPersons() {
        Nomdeplume x = Houses.town();
        x.sign(1, 1);
        x.name(0);
        x.sign(3, 0);
        x.tell(0, 2, 0, 0, true);
        x.tell(0, 2, 4, 0, true);
        C.is("18 links of two names", false, x.suspects(2, 1, 0));
        C.is("18 nor of the other name", false, x.suspects(2, 4, 0));
        x.tell(0, 2, 1, 0, true);
        C.is("18 two of name 0 and its third", false, x.suspects(2, 2, 0));
        C.is("18 not of the work of another name", false, x.suspects(2, 4, 0));
        x.sign(0, 0);
        C.is("18 a work that comes later", true, x.suspects(2, 5, 0));
        x.give(0, 0, 1, 1);
        x.give(5, 0, 1, 1);
        C.is("18 a hand of both", false, x.suspects(2, 1, 1));
        x.tell(0, 2, 0, 1, true);
        x.tell(0, 2, 5, 1, true);
        C.is("18 told of both", true, x.suspects(2, 1, 1));
    }

    private static void promise19Ask() {
        Nomdeplume x = shared();
        C.is("19 the public", '?', x.ask(-1, 0, 0));
        C.is("19 the public of no hand", '?', x.ask(-1, 0, 2));
        C.is("19 a hand of a hand", 'y', x.ask(1, 0, 0));
        C.is("19 a hand of itself", 'y', x.ask(1, 0, 1));
        C.is("19 a hand of no hand", 'n', x.ask(1, 0, 2));
        C.is("19 a stranger", '?', x.ask(2, 0, 0));
        C.is("19 a stranger of itself", '?', x.ask(2, 0, 2));
        x.tell(0, 2, 0, 0, true);
        C.is("19 who was told", 'y', x.ask(2, 0, 0));
        C.is("19 not of the other link", '?', x.ask(2, 0, 1));
        C.is("19 not of itself", '?', x.ask(2, 0, 2));
        Houses.rule(x, 0, "lift");
        C.is("19 lifted, the public", 'y', x.ask(-1, 0, 1));
        C.is("19 lifted, no hand", 'n', x.ask(-1, 0, 2));
        C.is("19 lifted, a stranger", 'y', x.ask(3, 0, 1));
        C.is("19 lifted, a stranger of no hand", 'n', x.ask(3, 0, 3));
        C.is("19 another work", '?', x.ask(-1, 1, 0));
        Nomdeplume y = Houses.shelf(2, 3);
        y.tell(0, 1, 0, 0, true);
        y.tell(0, 1, 1, 0, true);
        C.is("19 who suspects is not told", '?', y.ask(1, 2, 0));
    }

    private static void promise19Refused() {
        C.refused("19 no such asker", Houses::town, INDEX, h -> h.ask(4, 0, 0));
        C.refused("19 asker -2", Houses::town, INDEX, h -> h.ask(-2, 0, 0));
        C.refused("19 no such work", Houses::town, INDEX, h -> h.ask(-1, 3, 0));
        C.refused("19 work -1", Houses::town, INDEX, h -> h.ask(-1, -1, 0));
        C.refused("19 no such person", Houses::town, INDEX, h -> h.ask(-1, 0, 4));
        C.refused("19 of the public", Houses::town, INDEX, h -> h.ask(-1, 0, -1));
        C.refused("19 of the public, lifted", LinkTests::lifted, INDEX, h -> h.ask(-1, 0, -1));
    }

    private static void promise20Kept() {
        Nomdeplume x = shared();
        C.is("20 at first", 0, x.kept());
        x.ask(-1, 0, 0);
        C.is("20 one", 1, x.kept());
        x.ask(1, 0, 0);
        x.ask(1, 0, 2);
        C.is("20 y and n are not counted", 1, x.kept());
        x.ask(2, 1, 2);
        x.knows(2, 0, 0);
        x.suspects(2, 0, 0);
        C.is("20 two", 2, x.kept());
        Checks.answer(x, h -> h.ask(-1, 9, 0));
        C.is("20 nor what throws", 2, x.kept());
        Houses.rule(x, 0, "lift");
        x.ask(-1, 0, 0);
        C.is("20 nor what is lifted", 2, x.kept());
    }

    private static void promise21IsLifted() {
        Nomdeplume x = Houses.town();
        C.is("21 shut at first", false, x.isLifted(0));
        Houses.rule(x, 0, "lift");
        C.is("21 lifted", true, x.isLifted(0));
        C.is("21 that one alone", false, x.isLifted(1));
        C.is("21 one of the same name stays shut", false, x.isLifted(2));
        C.refused("21 no such work", Houses::town, INDEX, h -> h.isLifted(3));
        C.refused("21 work -1", Houses::town, INDEX, h -> h.isLifted(-1));
    }
}
