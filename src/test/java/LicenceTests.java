/** Promises 9 to 12: licences and signing. */
public final class LicenceTests {
    private static final Class<?> INDEX = IndexOutOfBoundsException.class;
    private static final Class<?> ARGUMENT = IllegalArgumentException.class;
    private static final Class<?> UNSUPPORTED = UnsupportedOperationException.class;
    private static final Class<?> STATE = IllegalStateException.class;
    private static final Checks C = new Checks();

    public static void main(String[] args) {
        promise9License();
        promise9Overlap();
        promise9Refused();
        promise9Order();
        promise10CanSign();
        promise10OwnerAndLicence();
        promise10Death();
        promise11Sign();
        promise12NameOf();
        C.close("LicenceTests");
    }

    private static void promise9License() {
        Nomdeplume x = Houses.town();
        C.is("9 first", 1, x.license(0, 1, 0, 0, false));
        C.is("9 all names counted", 2, x.license(1, 0, 500, 500, true));
        C.is("9 whole span", 3, x.license(0, 2, 0, 500, false));
        x.pass(7);
        C.is("9 from now", 4, x.license(1, 2, 7, 8, true));
        C.is("9 before now", "throws." + ARGUMENT.getName(), Checks.answer(x, h -> h.license(0, 1, 6, 8, false)));
        C.is("9 twice the same", 5, x.license(0, 2, 7, 500, false));
    }

    private static void promise9Overlap() {
        Checks.Plan open = () -> withLicence(false);
        Checks.Plan closed = () -> withLicence(true);
        C.is("9 two open ones", 2, open.build().license(0, 2, 10, 20, false));
        C.is("9 beside an open one, below", 2, open.build().license(0, 2, 0, 9, true));
        C.is("9 beside an open one, above", 2, open.build().license(0, 2, 21, 30, true));
        C.is("9 beside a closed one, below", 2, closed.build().license(0, 2, 0, 9, false));
        C.is("9 beside a closed one, above", 2, closed.build().license(0, 2, 21, 30, false));
        C.is("9 of another name", 2, closed.build().license(1, 2, 10, 20, true));
        C.refused("9 last year in common", open, UNSUPPORTED, h -> h.license(0, 2, 0, 10, true));
        C.refused("9 first year in common", open, UNSUPPORTED, h -> h.license(0, 2, 20, 30, true));
        C.refused("9 inside", open, UNSUPPORTED, h -> h.license(0, 2, 15, 15, true));
        C.refused("9 around", open, UNSUPPORTED, h -> h.license(0, 2, 0, 500, true));
        C.refused("9 last year in common with a closed one", closed, UNSUPPORTED, h -> h.license(0, 2, 0, 10, false));
        C.refused("9 first year in common with a closed one", closed, UNSUPPORTED, h -> h.license(0, 2, 20, 30, false));
        C.refused("9 inside a closed one", closed, UNSUPPORTED, h -> h.license(0, 2, 12, 13, false));
        C.refused("9 the same person's", closed, UNSUPPORTED, h -> h.license(0, 1, 12, 13, true));
    }

    private static Nomdeplume withLicence(boolean isExclusive) {
        Nomdeplume x = Houses.town();
        x.license(0, 1, 10, 20, isExclusive);
        return x;
    }

    private static void promise9Refused() {
        C.refused("9 no such name", Houses::town, INDEX, h -> h.license(3, 1, 0, 1, false));
        C.refused("9 name -1", Houses::town, INDEX, h -> h.license(-1, 1, 0, 1, false));
        C.refused("9 no such person", Houses::town, INDEX, h -> h.license(0, 4, 0, 1, false));
        C.refused("9 person -1", Houses::town, INDEX, h -> h.license(0, -1, 0, 1, false));
        C.refused("9 year -1", Houses::town, ARGUMENT, h -> h.license(0, 1, -1, 1, false));
        C.refused("9 from 501", Houses::town, ARGUMENT, h -> h.license(0, 1, 501, 501, false));
        C.refused("9 to 501", Houses::town, ARGUMENT, h -> h.license(0, 1, 0, 501, false));
        C.refused("9 to before from", Houses::town, ARGUMENT, h -> h.license(0, 1, 5, 4, false));
        C.refused("9 nobody's name", Houses::town, UNSUPPORTED, h -> h.license(2, 1, 0, 1, false));
        C.refused("9 the owner", Houses::town, UNSUPPORTED, h -> h.license(0, 0, 0, 1, false));
        C.refused("9 who died", Houses::town, UNSUPPORTED, h -> h.license(0, 3, 0, 1, false));
        C.refused("9 a 21st", LicenceTests::twenty, STATE, h -> h.license(0, 1, 0, 0, false));
    }

    private static void promise9Order() {
        C.refused("9 index before range", Houses::town, INDEX, h -> h.license(0, 9, 5, 4, false));
        C.refused("9 no such name before range", Houses::town, INDEX, h -> h.license(3, 1, 5, 4, false));
        C.refused("9 index before nobody", Houses::town, INDEX, h -> h.license(2, 4, 0, 1, false));
        C.refused("9 index before death", Houses::town, INDEX, h -> h.license(3, 3, 0, 1, false));
        C.refused("9 no such name before 20", LicenceTests::twenty, INDEX, h -> h.license(3, 1, 0, 0, false));
        C.refused("9 no such person before 20", LicenceTests::twenty, INDEX, h -> h.license(0, 4, 0, 0, false));
        C.refused("9 range before nobody", Houses::town, ARGUMENT, h -> h.license(2, 1, 5, 4, false));
        C.refused("9 range before death", Houses::town, ARGUMENT, h -> h.license(0, 3, -1, 4, false));
        C.refused("9 range before overlap", () -> withLicence(true), ARGUMENT, h -> h.license(0, 2, 10, 501, false));
        C.refused("9 nobody before 20", LicenceTests::twenty, UNSUPPORTED, h -> h.license(2, 1, 0, 0, false));
        C.refused("9 death before 20", LicenceTests::twenty, UNSUPPORTED, h -> h.license(0, 3, 0, 0, false));
        C.refused("9 range before owner", Houses::town, ARGUMENT, h -> h.license(0, 0, 5, 4, false));
        C.refused("9 owner before 20", LicenceTests::twenty, UNSUPPORTED, h -> h.license(0, 0, 0, 0, false));
        C.refused("9 overlap before 20", LicenceTests::twenty, UNSUPPORTED, h -> h.license(0, 2, 0, 0, true));
        C.refused("9 range before 20", LicenceTests::twenty, ARGUMENT, h -> h.license(0, 1, 0, 501, false));
    }

    private static Nomdeplume twenty() {
        Nomdeplume x = Houses.town();
        for (int i = 0; i < 20; i++) {
            C.is("9 given", i + 1, x.license(0, 1, 0, i, false));
        }
        return x;
    }

    private static void promise10CanSign() {
        Nomdeplume x = Houses.town();
        x.license(0, 1, 2, 3, false);
        C.is("10 owner", true, x.canSign(0, 0));
        C.is("10 the year before the licence", false, x.canSign(0, 1));
        C.is("10 stranger", false, x.canSign(0, 2));
        C.is("10 who died", false, x.canSign(2, 3));
        x.pass(1);
        C.is("10 still before", false, x.canSign(0, 1));
        x.pass(1);
        C.is("10 first year", true, x.canSign(0, 1));
        C.is("10 another name", false, x.canSign(1, 0));
        C.is("10 owner beside an open licence", true, x.canSign(0, 0));
        x.pass(1);
        C.is("10 last year", true, x.canSign(0, 1));
        x.pass(1);
        C.is("10 the year behind", false, x.canSign(0, 1));
        C.refused("10 no such name", Houses::town, INDEX, h -> h.canSign(3, 0));
        C.refused("10 name -1", Houses::town, INDEX, h -> h.canSign(-1, 0));
        C.refused("10 no such person", Houses::town, INDEX, h -> h.canSign(0, 4));
        C.refused("10 person -1", Houses::town, INDEX, h -> h.canSign(0, -1));
    }

    private static void promise10OwnerAndLicence() {
        Nomdeplume x = Houses.town();
        x.license(0, 1, 1, 2, true);
        C.is("10 owner before the exclusive year", true, x.canSign(0, 0));
        x.pass(1);
        C.is("10 owner in the exclusive year", false, x.canSign(0, 0));
        C.is("10 who has it", true, x.canSign(0, 1));
        C.is("10 the other name's owner", true, x.canSign(1, 1));
        x.sell(0, 1);
        C.is("10 who bought the name and has the licence", true, x.canSign(0, 1));
        x.sell(0, 2);
        C.is("10 the new owner waits, too", false, x.canSign(0, 2));
        C.is("10 a licence outlives the sale", true, x.canSign(0, 1));
        x.pass(2);
        C.is("10 the new owner behind the exclusive years", true, x.canSign(0, 2));
        C.is("10 the old owner", false, x.canSign(0, 0));
    }

    private static void promise10Death() {
        Nomdeplume x = Houses.town();
        x.setHeir(0, -1);
        x.license(0, 1, 0, 9, false);
        x.license(0, 2, 0, 9, false);
        x.die(0);
        C.is("10 a licence for nobody's name", true, x.canSign(0, 1));
        C.is("10 the owner who died", false, x.canSign(0, 0));
        x.die(1);
        C.is("10 who has a licence and died", false, x.canSign(0, 1));
        C.is("10 the other one with a licence", true, x.canSign(0, 2));
        Nomdeplume y = Houses.town();
        y.license(0, 1, 0, 9, true);
        y.die(1);
        C.is("10 an exclusive licence stays given", false, y.canSign(0, 0));
    }

    private static void promise11Sign() {
        Nomdeplume x = Houses.town();
        C.is("11 number", 3, x.sign(0, 0));
        C.is("11 all shares", 100, x.shares(3, 0));
        C.is("11 no shares of others", 0, x.shares(3, 1));
        C.is("11 hand", true, x.knows(0, 3, 0));
        C.is("11 veil", false, x.isLifted(3));
        x.license(0, 2, 0, 5, true);
        C.is("11 by a licence", 4, x.sign(0, 2));
        C.is("11 the signer's shares", 100, x.shares(4, 2));
        C.is("11 the owner waits", "throws." + UNSUPPORTED.getName(), Checks.answer(x, h -> h.sign(0, 0)));
        C.refused("11 no such name", Houses::town, INDEX, h -> h.sign(3, 0));
        C.refused("11 name -1", Houses::town, INDEX, h -> h.sign(-1, 0));
        C.refused("11 no such person", Houses::town, INDEX, h -> h.sign(0, 4));
        C.refused("11 person -1", Houses::town, INDEX, h -> h.sign(0, -1));
        C.refused("11 cannot", Houses::town, UNSUPPORTED, h -> h.sign(0, 1));
        C.refused("11 who died", LicenceTests::licensedOneDied, UNSUPPORTED, h -> h.sign(0, 2));
        C.refused("11 a 17th", () -> Houses.shelf(2, 16), STATE, h -> h.sign(0, 0));
        C.refused("11 a 17th that cannot be", () -> Houses.shelf(2, 16), UNSUPPORTED, h -> h.sign(0, 1));
        C.refused("11 a 17th by no name", () -> Houses.shelf(2, 16), INDEX, h -> h.sign(1, 0));
        C.refused("11 a 17th by nobody", () -> Houses.shelf(2, 16), INDEX, h -> h.sign(0, 2));
        C.is("11 the 16th", 15, Houses.shelf(1, 15).sign(0, 0));
    }

    private static Nomdeplume licensedOneDied() {
        Nomdeplume x = Houses.town();
        x.license(0, 2, 0, 5, false);
        x.die(2);
        return x;
    }

    private static void promise12NameOf() {
        Nomdeplume x = Houses.town();
        C.is("12 name 0", 0, x.nameOf(1));
        C.is("12 name 1", 1, x.nameOf(2));
        x.sell(1, 2);
        C.is("12 a sale leaves it", 1, x.nameOf(2));
        C.refused("12 no such work", Houses::town, INDEX, h -> h.nameOf(3));
        C.refused("12 work -1", Houses::town, INDEX, h -> h.nameOf(-1));
    }
}
