import java.math.BigInteger;
import java.util.NoSuchElementException;

/**
 * The house that is full: 8 persons, 8 names, 20 licences, 16 works, 60 links told, 6 letters typed, the
 * year 500. Nothing makes room in it but a verdict, which takes the letters.
 */
public final class FullHouseTests {
    private static final Class<?> INDEX = IndexOutOfBoundsException.class;
    private static final Class<?> ARGUMENT = IllegalArgumentException.class;
    private static final Class<?> UNSUPPORTED = UnsupportedOperationException.class;
    private static final Class<?> STATE = IllegalStateException.class;
    private static final Class<?> ELEMENT = NoSuchElementException.class;
    private static final Checks C = new Checks();

    public static void main(String[] args) {
        oneMoreOfEach();
        theLastOneThatFits();
        nothingMakesRoom();
        lettersMakeRoom();
        fullHouseGoesOn();
        allLifted();
        allDied();
        theLastYear();
        theLastTerms();
        checksumWrapsAround();
        checksumOfAllThatIs();
        asManyCallsAsThereAre();
        C.close("FullHouseTests");
    }

    private static void oneMoreOfEach() {
        C.refused("2 a ninth person", Houses::full, STATE, Nomdeplume::person);
        C.refused("6 a ninth name", Houses::full, STATE, h -> h.name(0));
        C.refused("9 a 21st licence", Houses::full, STATE, h -> h.license(0, 2, 0, 0, false));
        C.refused("11 a 17th work", Houses::full, STATE, h -> h.sign(0, 0));
        C.refused("16 a 61st link, free", Houses::full, STATE, h -> h.tell(0, 2, 0, 0, false));
        C.refused("16 a 61st link, bound", Houses::full, STATE, h -> h.tell(0, 2, 0, 0, true));
        C.refused("41 a seventh letter", Houses::full, STATE, h -> h.type('s'));
        C.is("48 full and sound", true, Houses.full().isSound());
    }

    private static void theLastOneThatFits() {
        C.is("2 the eighth person", 7, Houses.people(7).person());
        Nomdeplume names = Houses.people(1);
        Nomdeplume licences = Houses.shelf(2, 0);
        Nomdeplume told = Houses.shelf(2, 1);
        Nomdeplume letters = new Nomdeplume();
        for (int i = 0; i < 7; i++) {
            names.name(0);
        }
        for (int i = 0; i < 19; i++) {
            licences.license(0, 1, i, 500, false);
        }
        for (int i = 0; i < 59; i++) {
            told.tell(0, 1, 0, 0, true);
        }
        for (int i = 0; i < 5; i++) {
            letters.type('a');
        }
        C.is("6 the eighth name", 7, names.name(0));
        C.is("9 the 20th licence", 20, licences.license(0, 1, 0, 500, false));
        C.is("11 the 16th work", 15, Houses.shelf(1, 15).sign(0, 0));
        C.is("16 the 60th link", 60, told.tell(0, 1, 0, 0, false));
        C.is("41 the sixth letter", 6, letters.type('z'));
    }

    private static void nothingMakesRoom() {
        Nomdeplume x = Houses.full();
        Houses.pass(x, 30);
        C.throwsHere("9 licences that ended count", x, STATE, h -> h.license(0, 2, 30, 30, true));
        x.verdict(0);
        Houses.rule(x, 0, "seal");
        C.throwsHere("16 links sealed count", x, STATE, h -> h.tell(0, 1, 0, 0, false));
        Houses.rule(x, 0, "lift");
        C.throwsHere("16 links known to all count", x, STATE, h -> h.tell(5, 6, 0, 0, false));
        x.die(0);
        C.throwsHere("2 who died counts", x, STATE, Nomdeplume::person);
        C.throwsHere("6 a name that nobody owns counts", x, STATE, h -> h.name(1));
        C.throwsHere("11 works of who died count", x, STATE, h -> h.sign(1, 1));
        C.throwsHere("9 licences for a name that nobody owns count", x, STATE, h -> h.license(1, 3, 30, 30, false));
    }

    private static void lettersMakeRoom() {
        Nomdeplume x = Houses.full();
        C.throwsHere("41 six letters", x, STATE, h -> h.type('a'));
        C.is("42 six letters are no word", false, x.verdict(15));
        C.throwsHere("42 they are gone", x, UNSUPPORTED, h -> h.verdict(15));
        for (int i = 1; i <= 6; i++) {
            C.is("41 room for six again", i, x.type('b'));
        }
        C.throwsHere("41 and for no more", x, STATE, h -> h.type('b'));
        C.throwsHere("42 no such work leaves them", x, INDEX, h -> h.verdict(16));
        C.throwsHere("41 six still", x, STATE, h -> h.type('b'));
    }

    private static void fullHouseGoesOn() {
        Nomdeplume x = Houses.full();
        C.is("3 heir", -1, x.setHeir(7, 6));
        C.is("7 sell", 0, x.sell(0, 7));
        C.is("13 give", 100, x.give(15, 7, 6, 100));
        C.is("15 first hand", 6, x.firstHand(15));
        C.is("25 publish", 1, x.publish(15));
        C.is("30 grant", 0, x.grant(15, 'p', 7, 1));
        C.is("32 advance", 99999, x.advance(7, 99999));
        C.is("4 die", 2, x.die(7));
        C.is("8 the names are the heir's", 6, x.owner(0));
        C.is("10 a licence", true, x.canSign(6, 6));
        C.is("48 sound", true, x.isSound());
    }

    private static void allLifted() {
        Nomdeplume x = Houses.wide();
        for (int i = 0; i < 16; i++) {
            C.is("46 lifted of 16", (float) i / 16f, x.liftedShare());
            C.is("47 widths of 16", (8.0 * (16 - i) + i) / 16.0, x.meanWidth());
            Houses.rule(x, i, "lift");
        }
        C.is("46 all 16", 1f, x.liftedShare());
        C.is("47 all 16", 1.0, x.meanWidth());
        for (int i = 0; i < 8; i++) {
            C.is("40 of each name once", 1, x.scandal(i));
            C.is("40 30 less", -30, x.reputation(i));
            for (int k = 0; k < 8; k++) {
                C.is("17 all know all", true, x.knows(k, 15, 7));
            }
        }
        for (int i = 0; i < 7; i++) {
            x.give(i, i, 7, 1);
        }
        C.is("40 of all eight names", 8, x.scandal(7));
    }

    private static void allDied() {
        Nomdeplume x = Houses.full();
        x.verdict(0);
        for (int i = 0; i < 8; i++) {
            x.setHeir(i, (i + 1) % 8);
        }
        for (int i = 0; i < 7; i++) {
            C.is("4 all names so far go on", i + 1, x.die(i));
        }
        C.is("4 the last one's heir died", 0, x.die(7));
        for (int i = 0; i < 8; i++) {
            int number = i;
            C.throwsHere("8 nobody owns " + i, x, ELEMENT, h -> h.owner(number));
            C.throwsHere("10 nobody signs " + i, x, UNSUPPORTED, h -> h.sign(number, number));
            C.throwsHere("32 nobody is paid " + i, x, UNSUPPORTED, h -> h.advance(number, 1));
            C.throwsHere("30 nobody gives " + i, x, UNSUPPORTED, h -> h.grant(number, 'f', number, 1));
            C.is("28 all are held possible", 8, x.width(i));
        }
        C.is("34 all to the treasury", 99999, x.earn(15, 99999));
        C.is("36 treasury", 99999, x.treasury());
        C.throwsHere("2 no room", x, STATE, Nomdeplume::person);
        C.is("48 sound", true, x.isSound());
    }

    private static void theLastYear() {
        Checks.Plan last = () -> Houses.pass(Houses.wide(), 500);
        C.is("44 the last year", 500, last.build().year());
        C.refused("43 one year more", last, STATE, h -> h.pass(1));
        C.refused("43 fifty years more", last, STATE, h -> h.pass(50));
        C.refused("43 no year more", last, ARGUMENT, h -> h.pass(0));
        C.refused("43 51 years more", last, ARGUMENT, h -> h.pass(51));
        C.is("43 the last step", 500, Houses.pass(Houses.wide(), 499).pass(1));
        C.refused("43 a step too many", () -> Houses.pass(Houses.wide(), 499), STATE, h -> h.pass(2));
        C.is("9 a licence of the last year", 1, last.build().license(0, 1, 500, 500, true));
        C.refused("9 of the year before", last, ARGUMENT, h -> h.license(0, 1, 499, 500, true));
        C.refused("9 of the year behind", last, ARGUMENT, h -> h.license(0, 1, 500, 501, true));
        Nomdeplume x = last.build();
        x.license(0, 1, 500, 500, true);
        C.is("10 it holds in the last year", true, x.canSign(0, 1));
        C.is("10 the owner waits", false, x.canSign(0, 0));
    }

    private static void theLastTerms() {
        Nomdeplume x = Houses.pass(Houses.named(), 500);
        x.sign(7, 7);
        C.is("29 70 years behind the last year", true, x.isProtected(0, 570));
        C.is("29 71 years behind it", false, x.isProtected(0, 571));
        C.is("30 99 years from the last one", 598, x.grant(0, 'f', 0, 99));
        C.is("31 holder", 0, x.holder(0, 'f'));
        Houses.rule(x, 0, "lift");
        C.is("29 as long as a hand is alive", true, x.isProtected(0, 999));
        x.die(7);
        C.is("29 70 years behind the last death", true, x.isProtected(0, 570));
        C.is("29 71 years behind that", false, x.isProtected(0, 571));
        C.throwsHere("29 the year before now", x, ARGUMENT, h -> h.isProtected(0, 499));
        C.throwsHere("29 the year 1000", x, ARGUMENT, h -> h.isProtected(0, 1000));
    }

    /** 82 times 31 is far beyond a long; the sum is what is left of it in 64 bits. */
    private static void checksumWrapsAround() {
        Nomdeplume x = Houses.wide();
        BigInteger sum = BigInteger.valueOf(7);
        for (int i = 0; i < 8; i++) {
            sum = next(sum, 0);
        }
        for (int i = 0; i < 8; i++) {
            sum = next(next(next(sum, i), 0), 0);
        }
        for (int i = 0; i < 16; i++) {
            sum = next(next(next(sum, i % 8), 0), 8);
        }
        sum = next(next(sum, 0), 0);
        C.is("45 beyond a long", true, sum.bitLength() > 64);
        C.is("45 wraps around", sum.longValue(), x.checksum());
        C.is("45 the eighth person wraps", wrapped(8), Houses.people(8).checksum());
    }

    private static long wrapped(int persons) {
        BigInteger sum = BigInteger.valueOf(7);
        for (int i = 0; i < persons + 2; i++) {
            sum = next(sum, 0);
        }
        return sum.longValue();
    }

    private static BigInteger next(BigInteger sum, long part) {
        return sum.multiply(BigInteger.valueOf(31)).add(BigInteger.valueOf(part));
    }

    private static void checksumOfAllThatIs() {
        Nomdeplume x = Houses.wide();
        BigInteger sum = BigInteger.valueOf(7);
        for (int i = 0; i < 8; i++) {
            x.advance(i, 99999 - i);
            x.review(i, 2 * i - 20);
        }
        x.die(7);
        x.earn(15, 99999);
        Houses.rule(x, 14, "lift");
        x.give(14, 6, 0, 50);
        x.give(14, 6, 1, 1);
        x.pass(50);
        for (int i = 0; i < 8; i++) {
            sum = next(sum, 99999 - i);
        }
        for (int i = 0; i < 8; i++) {
            sum = next(next(next(sum, i == 7 ? -1 : i), i == 7 ? 0 : 99999 - i), 2 * i - 20);
        }
        for (int i = 0; i < 16; i++) {
            boolean isLifted = i == 14;
            sum = next(next(next(sum, isLifted ? 0 : i % 8), isLifted ? 1 : 0), isLifted ? 3 : 8);
        }
        sum = next(next(sum, 7), 50);
        C.is("45 with a treasury and a name of nobody", sum.longValue(), x.checksum());
    }

    /** 512 calls in all: two to make the name and its owner, one to sign, and looks and earnings. */
    private static void asManyCallsAsThereAre() {
        Nomdeplume x = Houses.shelf(1, 1);
        for (int i = 0; i < 504; i++) {
            x.earn(0, 99999);
        }
        C.is("35 all of it", 504L * 99999, x.purse(0));
        C.is("37 all of it", 504L * 99999, x.audit(0, 0));
        C.is("48 sound", true, x.isSound());
        Nomdeplume y = Houses.shelf(1, 1);
        for (int i = 0; i < 504; i++) {
            y.advance(0, 99999);
        }
        C.is("33 all of it", 504L * 99999, y.debt(0));
        C.is("34 what is owed takes all", 0, y.earn(0, 99999));
        C.is("48 sound, owing", true, y.isSound());
        Nomdeplume z = Houses.shelf(1, 1);
        for (int i = 0; i < 508; i++) {
            z.ask(-1, 0, 0);
        }
        C.is("20 each time", 508, z.kept());
    }
}
