import java.util.NoSuchElementException;

/**
 * The bounds that lie inside the rules of the document's "Terms": what comes just before a bound, what
 * is on it, and what comes just behind it. The ranges of parameters alone are RangeTests' matter.
 */
public final class BoundTests {
    private static final Class<?> ARGUMENT = IllegalArgumentException.class;
    private static final Class<?> UNSUPPORTED = UnsupportedOperationException.class;
    private static final Class<?> ELEMENT = NoSuchElementException.class;
    private static final Checks C = new Checks();

    public static void main(String[] args) {
        allNamesToTheHeir();
        heirsOfEachOther();
        namesOfNobody();
        licenceYears();
        sharesOneHas();
        firstHands();
        secondLink();
        soleWorkOfAName();
        masks();
        firstBound();
        lowestAndHighestBound();
        oneOfSeveralOnTheBound();
        nobodyIsPossible();
        seventyYears();
        seventyYearsBehindDeaths();
        rightsByYears();
        debtsPaidBack();
        hundredths();
        moneyOfWhoDied();
        reviewsAtTheEnds();
        scandalsNearTheEnd();
        wordsByOneLetter();
        C.close("BoundTests");
    }

    private static void allNamesToTheHeir() {
        Nomdeplume x = Houses.people(8);
        for (int i = 0; i < 8; i++) {
            x.name(0);
        }
        x.setHeir(0, 7);
        C.is("4 all eight names", 8, x.die(0));
        for (int i = 0; i < 8; i++) {
            C.is("8 the heir's", 7, x.owner(i));
        }
        C.is("4 of the heir to nobody", 0, x.die(7));
        C.throwsHere("8 nobody's", x, ELEMENT, h -> h.owner(7));
    }

    private static void heirsOfEachOther() {
        Nomdeplume x = Houses.named();
        x.setHeir(0, 1);
        x.setHeir(1, 0);
        C.is("4 to the other", 1, x.die(0));
        C.is("8 the other's", 1, x.owner(0));
        C.is("4 not back to who died", 0, x.die(1));
        C.throwsHere("8 nobody's", x, ELEMENT, h -> h.owner(0));
        C.is("4 an heir who died before", -1, x.setHeir(2, 1));
        C.is("4 gets nothing", 0, x.die(2));
        C.is("4 an heir until just now", -1, x.setHeir(3, 4));
        C.is("4 none now", 4, x.setHeir(3, -1));
        C.is("4 to nobody", 0, x.die(3));
        C.is("8 the heir's own alone", 4, x.owner(4));
    }

    private static void namesOfNobody() {
        Nomdeplume x = Houses.town();
        C.throwsHere("7 for good", x, UNSUPPORTED, h -> h.sell(2, 0));
        C.throwsHere("9 nobody gives a licence", x, UNSUPPORTED, h -> h.license(2, 0, 0, 0, false));
        C.throwsHere("32 nobody is paid", x, UNSUPPORTED, h -> h.advance(2, 1));
        C.throwsHere("11 nobody signs", x, UNSUPPORTED, h -> h.sign(2, 0));
        C.is("33 no debt", 0, x.debt(2));
        C.is("38 a review", 20, x.review(2, 20));
        C.throwsHere("3 no heir any more", x, UNSUPPORTED, h -> h.setHeir(3, 0));
    }

    /** A licence of the years 10 to 20, and one of the years just beside it, or one year over. */
    private static void licenceYears() {
        for (boolean isFirst : new boolean[] {false, true}) {
            for (boolean isSecond : new boolean[] {false, true}) {
                Object common = isFirst || isSecond ? Checks.thrown(UNSUPPORTED) : 2;
                C.is("9 up to the year before", 2, secondLicence(isFirst, isSecond, 9, 9));
                C.is("9 up to the first year", common, secondLicence(isFirst, isSecond, 9, 10));
                C.is("9 the first year", common, secondLicence(isFirst, isSecond, 10, 10));
                C.is("9 the same years", common, secondLicence(isFirst, isSecond, 10, 20));
                C.is("9 the last year", common, secondLicence(isFirst, isSecond, 20, 20));
                C.is("9 from the last year", common, secondLicence(isFirst, isSecond, 20, 21));
                C.is("9 from the year behind", 2, secondLicence(isFirst, isSecond, 21, 21));
                C.is("9 around", common, secondLicence(isFirst, isSecond, 9, 21));
            }
        }
    }

    private static Object secondLicence(boolean isFirst, boolean isSecond, int from, int to) {
        Nomdeplume x = Houses.named();
        x.license(0, 1, 10, 20, isFirst);
        return Checks.answer(x, h -> h.license(0, 2, from, to, isSecond));
    }

    private static void sharesOneHas() {
        Checks.Plan parted = () -> {
            Nomdeplume x = Houses.wide();
            x.give(0, 0, 1, 1);
            return x;
        };
        C.is("13 all one has", 100, parted.build().give(0, 0, 1, 99));
        C.refused("13 one more", parted, UNSUPPORTED, h -> h.give(0, 0, 1, 100));
        C.is("13 the only one", 100, parted.build().give(0, 1, 0, 1));
        C.refused("13 two where there is one", parted, UNSUPPORTED, h -> h.give(0, 1, 0, 2));
        C.refused("13 one where there is none", parted, UNSUPPORTED, h -> h.give(0, 2, 0, 1));
        Nomdeplume x = parted.build();
        x.give(0, 1, 0, 1);
        C.throwsHere("13 one where there was one", x, UNSUPPORTED, h -> h.give(0, 1, 0, 1));
        C.is("14 none left", 0, x.shares(0, 1));
        C.is("17 a hand all the same", true, x.knows(1, 0, 0));
        C.is("37 a hand all the same", 0, x.audit(1, 0));
    }

    private static void firstHands() {
        Nomdeplume x = Houses.wide();
        x.give(7, 7, 6, 49);
        C.is("15 51 and 49", 7, x.firstHand(7));
        x.give(7, 7, 6, 1);
        C.is("15 50 and 50", 6, x.firstHand(7));
        x.give(7, 7, 6, 1);
        C.is("15 49 and 51", 6, x.firstHand(7));
        x.give(7, 6, 7, 1);
        x.give(7, 6, 0, 50);
        C.is("15 50 of the first and of the last person", 0, x.firstHand(7));
        x.give(7, 0, 1, 1);
        C.is("15 49 of the first", 7, x.firstHand(7));
        x.give(7, 7, 2, 17);
        x.give(7, 0, 2, 16);
        x.give(7, 1, 2, 1);
        C.is("15 33 33 34", 2, x.firstHand(7));
        x.give(7, 2, 0, 1);
        C.is("15 34 33 33", 0, x.firstHand(7));
    }

    private static void secondLink() {
        Nomdeplume x = Houses.shelf(3, 16);
        C.is("18 none known", false, x.suspects(1, 15, 0));
        x.tell(0, 1, 0, 0, true);
        x.tell(0, 1, 0, 0, false);
        C.is("18 one known, told twice", false, x.suspects(1, 15, 0));
        x.tell(0, 1, 14, 0, true);
        C.is("18 the second", true, x.suspects(1, 15, 0));
        C.is("18 each other work", true, x.suspects(1, 1, 0));
        C.is("18 not the two", false, x.suspects(1, 0, 0) || x.suspects(1, 14, 0));
        x.tell(0, 1, 15, 0, true);
        C.is("18 a third: of each of the three", true, x.suspects(1, 0, 0) && x.suspects(1, 14, 0) && x.suspects(1, 15, 0));
    }

    private static void soleWorkOfAName() {
        Nomdeplume x = Houses.wide();
        Houses.rule(x, 0, "lift");
        Houses.rule(x, 8, "lift");
        C.is("18 no third work of that name", false, x.suspects(1, 0, 0) || x.suspects(1, 8, 0));
        Nomdeplume y = Houses.shelf(2, 1);
        C.is("18 the only work", false, y.suspects(0, 0, 0));
    }

    /** How far a count of one text is from that of the other behind one mask. */
    private static int masked(int from, int toward, int most) {
        Nomdeplume x = Houses.wide();
        x.write(0, 2, from);
        x.write(1, 2, toward);
        C.is("24 apart then", Math.max(0, Math.abs(from - toward) - most), x.mask(0, 1, most));
        C.is("24 the other text stays", toward, x.write(1, 2, toward));
        return x.write(0, 2, 0);
    }

    private static void masks() {
        C.is("24 one less than so much, up", 39, masked(0, 39, 40));
        C.is("24 just so much, up", 40, masked(0, 40, 40));
        C.is("24 one more, up", 40, masked(0, 41, 40));
        C.is("24 one less than so much, down", 60, masked(99, 60, 40));
        C.is("24 just so much, down", 59, masked(99, 59, 40));
        C.is("24 one more, down", 59, masked(99, 58, 40));
        C.is("24 by 1, alike", 7, masked(7, 7, 1));
        C.is("24 by 1, up", 8, masked(7, 8, 1));
        C.is("24 by 1, two up", 8, masked(7, 9, 1));
        C.is("24 by 1, down", 6, masked(7, 6, 1));
        C.is("24 by 1, two down", 6, masked(7, 5, 1));
        C.is("24 not above 99", 99, masked(98, 99, 40));
        C.is("24 not below 0", 0, masked(1, 0, 40));
    }

    /** Works 0 and 1 are published and so far apart, and the veil of work 1, person 1's, is lifted. */
    private static Nomdeplume apart(int distance) {
        Nomdeplume x = Houses.wide();
        int left = distance;
        for (int i = 0; i < 5; i++) {
            x.write(1, i, Math.min(99, left));
            left -= Math.min(99, left);
        }
        x.publish(0);
        x.publish(1);
        Houses.rule(x, 1, "lift");
        C.is("23 so far", distance, x.apart(0, 1));
        return x;
    }

    private static void firstBound() {
        C.is("27 49", true, apart(49).isPossible(0, 1));
        C.is("27 50 is not farther than 50", true, apart(50).isPossible(0, 1));
        C.is("27 51 is farther", false, apart(51).isPossible(0, 1));
        C.is("28 50", 8, apart(50).width(0));
        C.is("28 51", 7, apart(51).width(0));
    }

    private static void lowestAndHighestBound() {
        Nomdeplume alike = apart(0);
        alike.setBound(0);
        C.is("27 0 is not farther than 0", true, alike.isPossible(0, 1));
        Nomdeplume near = apart(1);
        near.setBound(0);
        C.is("27 1 is farther than 0", false, near.isPossible(0, 1));
        near.setBound(1);
        C.is("27 1 is not farther than 1", true, near.isPossible(0, 1));
        Nomdeplume far = apart(495);
        C.is("27 495 is farther than 50", false, far.isPossible(0, 1));
        far.setBound(494);
        C.is("27 495 is farther than 494", false, far.isPossible(0, 1));
        far.setBound(495);
        C.is("27 nothing is farther than 495", true, far.isPossible(0, 1));
        C.throwsHere("26 496", far, ARGUMENT, h -> h.setBound(496));
        C.is("27 the bound stays", true, far.isPossible(0, 1));
    }

    private static void oneOfSeveralOnTheBound() {
        Nomdeplume x = apart(60);
        x.write(9, 0, 50);
        x.publish(9);
        Houses.rule(x, 9, "lift");
        C.is("27 one is on the bound", true, x.isPossible(0, 1));
        x.setBound(49);
        C.is("27 both are farther", false, x.isPossible(0, 1));
        x.setBound(59);
        C.is("27 one is nearer", true, x.isPossible(0, 1));
        x.setBound(60);
        C.is("27 both are nearer", true, x.isPossible(0, 1));
    }

    private static void nobodyIsPossible() {
        Nomdeplume x = apart(100);
        for (int i = 0; i < 8; i++) {
            if (i != 1) {
                x.give(1, 1, i, 1);
            }
        }
        C.is("28 all are ruled out", 0, x.width(0));
        C.is("28 all eight are its hands", 8, x.width(1));
        C.is("27 not even its hand", false, x.isPossible(0, 0));
        C.is("47 a width of none counts", 8.0 * 15.0 / 16.0, x.meanWidth());
        C.is("48 sound", true, x.isSound());
        Houses.rule(x, 0, "lift");
        C.is("28 lifted: its hand", 1, x.width(0));
    }

    private static void seventyYears() {
        Nomdeplume x = Houses.named();
        x.sign(0, 0);
        x.pass(1);
        x.sign(0, 0);
        Houses.pass(x, 428);
        x.sign(0, 0);
        x.pass(1);
        x.sign(0, 0);
        C.is("29 signed in 429: 499", true, x.isProtected(2, 499));
        C.is("29 signed in 429: 500", false, x.isProtected(2, 500));
        C.is("29 signed in 430: 500", true, x.isProtected(3, 500));
        C.is("29 signed in 430: 501", false, x.isProtected(3, 501));
        C.is("29 signed in 0: now", false, x.isProtected(0, 430));
        Nomdeplume y = Houses.pass(Houses.wide(), 69);
        C.is("29 the 69th year behind", true, y.isProtected(0, 69));
        C.is("30 the 69th year behind", 69, y.grant(0, 'f', 1, 1));
        y.pass(1);
        C.is("29 the 70th year behind", true, y.isProtected(0, 70));
        C.is("30 the 70th year behind", 70, y.grant(0, 'f', 1, 1));
        y.pass(1);
        C.is("29 the 71st year behind", false, y.isProtected(0, 71));
        C.throwsHere("30 the 71st year behind", y, UNSUPPORTED, h -> h.grant(0, 'f', 1, 1));
    }

    private static void seventyYearsBehindDeaths() {
        Nomdeplume x = Houses.wide();
        x.give(0, 0, 1, 50);
        Houses.rule(x, 0, "lift");
        Houses.pass(x, 30);
        x.die(0);
        C.is("29 one of two died: 999", true, x.isProtected(0, 999));
        x.pass(10);
        x.die(1);
        C.is("29 the last died in 40: 110", true, x.isProtected(0, 110));
        C.is("29 the last died in 40: 111", false, x.isProtected(0, 111));
        C.is("29 another work, shut: 70", true, x.isProtected(8, 70));
        C.is("29 another work, shut: 71", false, x.isProtected(8, 71));
        Nomdeplume y = Houses.wide();
        y.give(0, 0, 1, 100);
        y.give(0, 1, 0, 100);
        Houses.rule(y, 0, "lift");
        y.die(0);
        C.is("29 who had some is a hand, and alive", true, y.isProtected(0, 999));
        y.die(1);
        C.is("29 both died at once: 70", true, y.isProtected(0, 70));
        C.is("29 both died at once: 71", false, y.isProtected(0, 71));
    }

    private static void rightsByYears() {
        Nomdeplume x = Houses.wide();
        C.is("30 this year alone", 0, x.grant(0, 'f', 1, 1));
        C.is("30 this year and the next", 1, x.grant(0, 's', 2, 2));
        C.throwsHere("30 given this year", x, UNSUPPORTED, h -> h.grant(0, 'f', 3, 1));
        x.pass(1);
        C.throwsHere("31 behind its year", x, ELEMENT, h -> h.holder(0, 'f'));
        C.is("31 its last year", 2, x.holder(0, 's'));
        C.throwsHere("30 given in its last year", x, UNSUPPORTED, h -> h.grant(0, 's', 3, 1));
        C.is("30 again behind its year", 1, x.grant(0, 'f', 3, 1));
        x.pass(1);
        C.throwsHere("31 behind its last year", x, ELEMENT, h -> h.holder(0, 's'));
        C.is("30 again behind its last year", 100, x.grant(0, 's', 4, 99));
        Houses.pass(x, 98);
        C.is("31 the 99th year", 4, x.holder(0, 's'));
        x.pass(1);
        C.throwsHere("31 the 100th year", x, ELEMENT, h -> h.holder(0, 's'));
        Nomdeplume y = Houses.wide();
        y.grant(0, 'p', 1, 99);
        Houses.rule(y, 0, "void");
        C.throwsHere("42 ended at once", y, ELEMENT, h -> h.holder(0, 'p'));
        C.is("30 and given again in the same year", 0, y.grant(0, 'p', 2, 1));
    }

    private static void debtsPaidBack() {
        C.is("34 one cent less than the debt", 0, owing().earn(0, 499));
        C.is("34 the debt", 0, owing().earn(0, 500));
        C.is("34 one cent more", 1, owing().earn(0, 501));
        Nomdeplume x = owing();
        x.earn(0, 499);
        C.is("33 one cent is owed", 1, x.debt(0));
        C.is("35 nothing was paid out", 500, x.purse(0));
        x.earn(8, 1);
        C.is("33 another work of the name pays it back", 0, x.debt(0));
        C.is("34 no debt", 1, x.earn(0, 1));
        C.is("35 one cent more", 501, x.purse(0));
        C.is("37 all that it earned", 500, x.audit(0, 0));
        C.is("48 sound", true, x.isSound());
    }

    private static Nomdeplume owing() {
        Nomdeplume x = Houses.wide();
        x.advance(0, 500);
        return x;
    }

    /** What somebody with so many shares has, behind earnings of so many cents; person 0 has the rest. */
    private static long part(int shares, int cents) {
        Nomdeplume x = Houses.wide();
        x.give(0, 0, 1, shares);
        C.is("34 all goes out", cents, x.earn(0, cents));
        C.is("34 in two parts", cents, x.purse(0) + x.purse(1));
        return x.purse(1);
    }

    private static void hundredths() {
        C.is("34 a hundredth of 99", 0, part(1, 99));
        C.is("34 a hundredth of 100", 1, part(1, 100));
        C.is("34 a hundredth of 199", 1, part(1, 199));
        C.is("34 a hundredth of 200", 2, part(1, 200));
        C.is("34 half of 1: left to the first hand", 0, part(50, 1));
        C.is("34 half of 3", 1, part(50, 3));
        C.is("34 51 of 1: the first hand's", 1, part(51, 1));
        C.is("34 99 of 99999, and what is left", 98999 + 1, part(99, 99999));
        C.is("34 all of 1", 1, part(100, 1));
        C.is("34 all of 99999", 99999, part(100, 99999));
    }

    private static void moneyOfWhoDied() {
        Nomdeplume x = Houses.wide();
        x.setHeir(0, 1);
        x.give(0, 0, 2, 49);
        x.die(0);
        x.earn(0, 101);
        C.is("34 the heir's part, and what is left", 52, x.purse(1));
        C.is("34 the other hand's", 49, x.purse(2));
        C.is("36 nothing yet", 0, x.treasury());
        x.advance(0, 10);
        C.is("32 the name is the heir's", 62, x.purse(1));
        x.earn(0, 10);
        x.die(1);
        x.earn(0, 101);
        C.is("36 the heir died, too", 52, x.treasury());
        C.is("34 the other hand's again", 98, x.purse(2));
        x.die(2);
        x.earn(0, 101);
        C.is("36 all of it", 52 + 101, x.treasury());
        C.is("35 who died keeps the purse", 98, x.purse(2));
        C.is("48 sound", true, x.isSound());
    }

    /** A name of such a reputation, by reviews. */
    private static Nomdeplume famed(int reputation) {
        Nomdeplume x = Houses.wide();
        int left = reputation;
        while (left != 0) {
            int points = Math.max(-20, Math.min(20, left));
            x.review(0, points);
            left -= points;
        }
        C.is("39 reviewed", reputation, x.reputation(0));
        return x;
    }

    private static void reviewsAtTheEnds() {
        C.is("38 98", 98, famed(78).review(0, 20));
        C.is("38 99", 99, famed(79).review(0, 20));
        C.is("38 not 100", 99, famed(80).review(0, 20));
        C.is("38 not 119", 99, famed(99).review(0, 20));
        C.is("38 -98", -98, famed(-78).review(0, -20));
        C.is("38 -99", -99, famed(-79).review(0, -20));
        C.is("38 not -100", -99, famed(-80).review(0, -20));
        C.is("38 not -119", -99, famed(-99).review(0, -20));
        C.is("38 0 at the top", 99, famed(99).review(0, 0));
        C.is("38 0 at the bottom", -99, famed(-99).review(0, 0));
    }

    private static int behindScandal(int reputation) {
        Nomdeplume x = famed(reputation);
        Houses.rule(x, 0, "lift");
        Houses.rule(x, 8, "lift");
        C.is("40 one name, by two works", 1, x.scandal(0));
        C.is("40 no other name", 0, x.reputation(1));
        return x.reputation(0);
    }

    private static void scandalsNearTheEnd() {
        C.is("40 from 99", 69, behindScandal(99));
        C.is("40 from 0", -30, behindScandal(0));
        C.is("40 from -68", -98, behindScandal(-68));
        C.is("40 from -69", -99, behindScandal(-69));
        C.is("40 from -70", -99, behindScandal(-70));
        C.is("40 from -98", -99, behindScandal(-98));
        C.is("40 from -99", -99, behindScandal(-99));
    }

    /** Three letters are too few, five too many, and each letter must be the right one. */
    private static void wordsByOneLetter() {
        for (String word : new String[] {"lift", "seal", "void"}) {
            C.is("42 " + word, true, Houses.rule(disputed(), 0, word));
            for (String other : neighbours(word)) {
                Nomdeplume x = disputed();
                C.is("42 " + other, false, Houses.rule(x, 0, other));
                C.throwsHere("42 gone: " + other, x, UNSUPPORTED, h -> h.verdict(0));
                C.is("42 no lift by " + other, false, x.isLifted(0));
                C.is("42 no seal by " + other, 2, x.tell(1, 2, 0, 0, true));
                C.is("42 no void by " + other, 3, x.holder(0, 'p'));
            }
        }
    }

    /** Of work 0, a link was told free, and a right is given. */
    private static Nomdeplume disputed() {
        Nomdeplume x = Houses.wide();
        x.tell(0, 1, 0, 0, false);
        x.grant(0, 'p', 3, 1);
        return x;
    }

    private static String[] neighbours(String word) {
        char last = word.charAt(3);
        char first = word.charAt(0);
        return new String[] {
            word.substring(0, 3), word.substring(1), word + "a", "a" + word, word + word.substring(0, 2),
            word.substring(0, 3) + (char) (last - 1), word.substring(0, 3) + (char) (last + 1),
            (char) (first - 1) + word.substring(1), (char) (first + 1) + word.substring(1),
            new StringBuilder(word).reverse().toString()};
    }
}
