import java.util.NoSuchElementException;

/**
 * The empty house: no persons, no names, no works, nothing typed, told or given. Then the houses that
 * have persons alone, and persons and names alone.
 */
public final class EmptyHouseTests {
    private static final Class<?> INDEX = IndexOutOfBoundsException.class;
    private static final Class<?> ARGUMENT = IllegalArgumentException.class;
    private static final Class<?> ARITHMETIC = ArithmeticException.class;
    private static final Class<?> UNSUPPORTED = UnsupportedOperationException.class;
    private static final Checks C = new Checks();

    /** A call whose numbers are all the same one. */
    private interface Numbered {
        Object on(Nomdeplume house, int number);
    }

    public static void main(String[] args) {
        looks();
        whatAnEmptyHouseLets();
        refusedWhereNothingIs();
        personsAlone();
        personsAndNamesAlone();
        nothingTypedToldOrGiven();
        C.close("EmptyHouseTests");
    }

    private static void looks() {
        Nomdeplume x = new Nomdeplume();
        C.is("1 year", 0, x.year());
        C.is("20 kept", 0, x.kept());
        C.is("36 treasury", 0, x.treasury());
        C.is("45 checksum", 7 * 31 * 31, x.checksum());
        C.is("48 sound", true, x.isSound());
        C.refused("46 no works", Nomdeplume::new, ARITHMETIC, Nomdeplume::liftedShare);
        C.refused("47 no works", Nomdeplume::new, ARITHMETIC, Nomdeplume::meanWidth);
    }

    private static void whatAnEmptyHouseLets() {
        C.is("2 person", 0, new Nomdeplume().person());
        C.is("26 bound", 50, new Nomdeplume().setBound(495));
        C.is("41 letter", 1, new Nomdeplume().type('a'));
        Nomdeplume x = new Nomdeplume();
        C.is("43 year", 50, x.pass(50));
        C.is("45 checksum of the year alone", 7 * 31 * 31 + 50, x.checksum());
        C.refused("26 bound 496", Nomdeplume::new, ARGUMENT, h -> h.setBound(496));
        C.refused("41 no letter", Nomdeplume::new, ARGUMENT, h -> h.type('0'));
        C.refused("43 no years", Nomdeplume::new, ARGUMENT, h -> h.pass(0));
    }

    private static void refusedWhereNothingIs() {
        none("3 setHeir", Nomdeplume::new, (h, n) -> h.setHeir(n, n));
        none("3 setHeir, no heir", Nomdeplume::new, (h, n) -> h.setHeir(n, -1));
        none("4 die", Nomdeplume::new, (h, n) -> h.die(n));
        none("5 isAlive", Nomdeplume::new, (h, n) -> h.isAlive(n));
        none("6 name", Nomdeplume::new, (h, n) -> h.name(n));
        none("35 purse", Nomdeplume::new, (h, n) -> h.purse(n));
        none("40 scandal", Nomdeplume::new, (h, n) -> h.scandal(n));
        namesAreRefused("empty, ", Nomdeplume::new);
        worksAreRefused("empty, ", Nomdeplume::new);
    }

    private static void none(String what, Checks.Plan plan, Numbered call) {
        for (int number : new int[] {0, -1, 1, 7, 15}) {
            C.refused(what + " " + number, plan, INDEX, h -> call.on(h, number));
        }
    }

    private static void namesAreRefused(String house, Checks.Plan plan) {
        none(house + "7 sell", plan, (h, n) -> h.sell(n, 0));
        none(house + "8 owner", plan, (h, n) -> h.owner(n));
        none(house + "9 license", plan, (h, n) -> h.license(n, 0, 0, 0, false));
        none(house + "10 canSign", plan, (h, n) -> h.canSign(n, 0));
        none(house + "11 sign", plan, (h, n) -> h.sign(n, 0));
        none(house + "32 advance", plan, (h, n) -> h.advance(n, 1));
        none(house + "33 debt", plan, (h, n) -> h.debt(n));
        none(house + "38 review", plan, (h, n) -> h.review(n, 0));
        none(house + "39 reputation", plan, (h, n) -> h.reputation(n));
    }

    private static void worksAreRefused(String house, Checks.Plan plan) {
        none(house + "12 nameOf", plan, (h, n) -> h.nameOf(n));
        none(house + "13 give", plan, (h, n) -> h.give(n, 0, 1, 1));
        none(house + "14 shares", plan, (h, n) -> h.shares(n, 0));
        none(house + "15 firstHand", plan, (h, n) -> h.firstHand(n));
        none(house + "16 tell", plan, (h, n) -> h.tell(0, 1, n, 0, false));
        none(house + "17 knows", plan, (h, n) -> h.knows(0, n, 0));
        none(house + "18 suspects", plan, (h, n) -> h.suspects(0, n, 0));
        none(house + "19 ask", plan, (h, n) -> h.ask(-1, n, 0));
        none(house + "21 isLifted", plan, (h, n) -> h.isLifted(n));
        none(house + "22 write", plan, (h, n) -> h.write(n, 0, 0));
        none(house + "23 apart", plan, (h, n) -> h.apart(n, n));
        none(house + "24 mask", plan, (h, n) -> h.mask(n, n, 1));
        none(house + "25 publish", plan, (h, n) -> h.publish(n));
        none(house + "27 isPossible", plan, (h, n) -> h.isPossible(n, 0));
        none(house + "28 width", plan, (h, n) -> h.width(n));
        none(house + "29 isProtected", plan, (h, n) -> h.isProtected(n, 0));
        none(house + "30 grant", plan, (h, n) -> h.grant(n, 'f', 0, 1));
        none(house + "31 holder", plan, (h, n) -> h.holder(n, 'f'));
        none(house + "34 earn", plan, (h, n) -> h.earn(n, 1));
        none(house + "37 audit", plan, (h, n) -> h.audit(0, n));
        none(house + "42 verdict", plan, (h, n) -> h.verdict(n));
    }

    private static void personsAlone() {
        Checks.Plan two = () -> Houses.people(2);
        namesAreRefused("persons alone, ", two);
        worksAreRefused("persons alone, ", two);
        C.is("4 no names", 0, two.build().die(1));
        C.is("40 no names", 0, two.build().scandal(1));
        C.is("45 persons alone", (((7 * 31) * 31) * 31) * 31, two.build().checksum());
        C.is("48 persons alone", true, two.build().isSound());
        C.refused("46 persons alone", two, ARITHMETIC, Nomdeplume::liftedShare);
        C.refused("47 persons alone", two, ARITHMETIC, Nomdeplume::meanWidth);
    }

    private static void personsAndNamesAlone() {
        Checks.Plan named = () -> {
            Nomdeplume x = Houses.people(2);
            x.name(1);
            return x;
        };
        worksAreRefused("names alone, ", named);
        C.is("40 no works", 0, named.build().scandal(1));
        C.is("48 names alone", true, named.build().isSound());
        C.refused("46 names alone", named, ARITHMETIC, Nomdeplume::liftedShare);
        C.refused("47 names alone", named, ARITHMETIC, Nomdeplume::meanWidth);
        Nomdeplume x = named.build();
        C.is("32 an advance to a name without works", 9, x.advance(0, 9));
        C.is("48 and still sound", true, x.isSound());
    }

    private static void nothingTypedToldOrGiven() {
        Checks.Plan plain = () -> Houses.shelf(2, 1);
        Nomdeplume x = plain.build();
        C.is("17 nothing told", false, x.knows(1, 0, 0));
        C.is("21 nothing lifted", false, x.isLifted(0));
        C.is("33 no debt", 0, x.debt(0));
        C.is("37 nothing earned", 0, x.audit(0, 0));
        C.is("39 no reviews", 0, x.reputation(0));
        C.is("46 none lifted", 0f, x.liftedShare());
        C.is("47 all possible", 2.0, x.meanWidth());
        C.refused("42 nothing typed", plain, UNSUPPORTED, h -> h.verdict(0));
        for (char right : new char[] {'f', 's', 'p'}) {
            C.refused("31 nothing given " + right, plain, NoSuchElementException.class, h -> h.holder(0, right));
        }
        C.is("42 void where nothing is given", true, Houses.rule(x, 0, "void"));
        C.is("42 seal where nothing was told", true, Houses.rule(x, 0, "seal"));
        C.is("48 sound then", true, x.isSound());
    }
}
