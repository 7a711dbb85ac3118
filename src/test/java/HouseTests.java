import java.util.NoSuchElementException;

/** Promises 41 to 48: letters, verdicts, years and sums over the whole house. */
public final class HouseTests {
    private static final Class<?> INDEX = IndexOutOfBoundsException.class;
    private static final Class<?> ARGUMENT = IllegalArgumentException.class;
    private static final Class<?> UNSUPPORTED = UnsupportedOperationException.class;
    private static final Class<?> STATE = IllegalStateException.class;
    private static final Class<?> ARITHMETIC = ArithmeticException.class;
    private static final Checks C = new Checks();

    public static void main(String[] args) {
        promise41Type();
        promise42Words();
        promise42Lift();
        promise42Seal();
        promise42Void();
        promise42Refused();
        promise43Pass();
        promise44Year();
        promise45Checksum();
        promise46LiftedShare();
        promise47MeanWidth();
        promise48IsSound();
        C.close("HouseTests");
    }

    private static void promise41Type() {
        Nomdeplume x = new Nomdeplume();
        C.is("41 a", 1, x.type('a'));
        C.is("41 z", 2, x.type('z'));
        C.is("41 on", 3, x.type('z'));
        C.is("41 on", 4, x.type('l'));
        C.is("41 on", 5, x.type('l'));
        C.is("41 six", 6, x.type('l'));
        C.refused("41 seven", () -> typed("lifted"), STATE, h -> h.type('x'));
        C.refused("41 letter before seven", () -> typed("lifted"), ARGUMENT, h -> h.type('X'));
        C.refused("41 A", () -> typed("lif"), ARGUMENT, h -> h.type('A'));
        C.refused("41 before a", () -> typed("lif"), ARGUMENT, h -> h.type('`'));
        C.refused("41 behind z", () -> typed("lif"), ARGUMENT, h -> h.type('{'));
        C.refused("41 far off", () -> typed("lif"), ARGUMENT, h -> h.type((char) ('t' + 256)));
        C.refused("41 the last", () -> typed("lif"), ARGUMENT, h -> h.type((char) 65535));
    }

    private static Nomdeplume typed(String letters) {
        Nomdeplume x = Houses.town();
        for (char letter : letters.toCharArray()) {
            x.type(letter);
        }
        return x;
    }

    private static void promise42Words() {
        for (String other : new String[] {"l", "lif", "lifts", "liftx", "xlift", "gift", "loft", "lint", "lifx", "tfil", "sea", "seals", "voi", "voids", "aaaaaa"}) {
            Nomdeplume x = Houses.town();
            x.grant(0, 'f', 1, 9);
            C.is("42 " + other, false, Houses.rule(x, 0, other));
            C.is("42 no lift by " + other, false, x.isLifted(0));
            C.is("42 no void by " + other, 1, x.holder(0, 'f'));
            C.is("42 is gone", 1, x.type('l'));
        }
        Nomdeplume x = Houses.town();
        C.is("42 another word first", false, Houses.rule(x, 0, "lifted"));
        C.is("42 then one", true, Houses.rule(x, 1, "lift"));
        C.is("42 lifted", true, x.isLifted(1));
        C.is("42 not that one", false, x.isLifted(0));
        C.is("42 a word is gone, too", "throws." + UNSUPPORTED.getName(), Checks.answer(x, h -> h.verdict(0)));
    }

    private static void promise42Lift() {
        Nomdeplume x = Houses.town();
        C.is("42 lift", true, Houses.rule(x, 0, "lift"));
        C.is("42 lifted", true, x.isLifted(0));
        C.is("42 again", true, Houses.rule(x, 0, "lift"));
        C.is("42 stays lifted", true, x.isLifted(0));
        C.is("42 the others are shut", false, x.isLifted(1));
        C.is("42 seal leaves it lifted", true, Houses.rule(x, 0, "seal"));
        C.is("42 lifted still", true, x.isLifted(0));
    }

    private static void promise42Seal() {
        Nomdeplume x = Houses.town();
        x.give(0, 0, 2, 10);
        x.tell(0, 1, 0, 0, false);
        x.tell(0, 1, 0, 2, false);
        x.tell(0, 1, 1, 0, false);
        C.is("42 seal", true, Houses.rule(x, 0, "seal"));
        C.is("42 what was told stays known", true, x.knows(1, 0, 0));
        C.is("42 bound", "throws." + UNSUPPORTED.getName(), Checks.answer(x, h -> h.tell(1, 2, 0, 0, true)));
        C.is("42 all its links", "throws." + UNSUPPORTED.getName(), Checks.answer(x, h -> h.tell(1, 2, 0, 2, true)));
        C.is("42 another work", 4, x.tell(1, 2, 1, 0, true));
        C.is("42 a hand tells on", 5, x.tell(2, 1, 0, 0, false));
        C.is("42 free again", 6, x.tell(1, 2, 0, 0, true));
        Nomdeplume y = Houses.town();
        for (int i = 0; i < 3; i += 2) {
            y.tell(1, i, 2, 1, false);
        }
        Houses.rule(y, 2, "seal");
        for (int i = 0; i < 3; i += 2) {
            int listener = i;
            C.is("42 bound all the same " + i, "throws." + UNSUPPORTED.getName(), Checks.answer(y, h -> h.tell(listener, 1, 2, 1, true)));
        }
    }

    private static void promise42Void() {
        Nomdeplume x = Houses.town();
        x.grant(0, 'f', 1, 9);
        x.grant(0, 's', 1, 9);
        x.grant(0, 'p', 2, 9);
        x.grant(1, 'f', 1, 9);
        C.is("42 void", true, Houses.rule(x, 0, "void"));
        for (char right : new char[] {'f', 's', 'p'}) {
            C.is("42 ended " + right, "throws." + NoSuchElementException.class.getName(), Checks.answer(x, h -> h.holder(0, right)));
        }
        C.is("42 another work's", 1, x.holder(1, 'f'));
        C.is("42 given anew", 3, x.grant(0, 'f', 2, 4));
        C.is("42 void without rights", true, Houses.rule(x, 2, "void"));
        C.is("42 no lift", false, x.isLifted(0));
    }

    private static void promise42Refused() {
        C.refused("42 no such work", () -> typed("lif"), INDEX, h -> h.verdict(3));
        C.refused("42 work -1", () -> typed("lif"), INDEX, h -> h.verdict(-1));
        C.refused("42 no such work, nothing typed", Houses::town, INDEX, h -> h.verdict(3));
        C.refused("42 nothing typed", Houses::town, UNSUPPORTED, h -> h.verdict(0));
    }

    private static void promise43Pass() {
        Nomdeplume x = Houses.town();
        C.is("43 one", 1, x.pass(1));
        C.is("43 fifty", 51, x.pass(50));
        C.refused("43 none", Houses::town, ARGUMENT, h -> h.pass(0));
        C.refused("43 below", Houses::town, ARGUMENT, h -> h.pass(-1));
        C.refused("43 51", Houses::town, ARGUMENT, h -> h.pass(51));
        C.refused("43 far off", Houses::town, ARGUMENT, h -> h.pass(Integer.MAX_VALUE));
        C.is("43 up to 500", 500, late().pass(10));
        C.refused("43 above 500", HouseTests::late, STATE, h -> h.pass(11));
        C.refused("43 range before 500", HouseTests::late, ARGUMENT, h -> h.pass(51));
    }

    /** The year is 490. */
    private static Nomdeplume late() {
        Nomdeplume x = Houses.town();
        for (int i = 0; i < 10; i++) {
            x.pass(49);
        }
        return x;
    }

    private static void promise44Year() {
        Nomdeplume x = Houses.town();
        C.is("44 at first", 0, x.year());
        x.pass(3);
        C.is("44 later", 3, x.year());
        C.is("44 late", 490, late().year());
    }

    private static void promise45Checksum() {
        Nomdeplume x = Houses.town();
        x.advance(0, 500);
        x.advance(1, 21);
        x.review(1, -4);
        x.earn(2, 77);
        x.advance(1, 11);
        x.die(2);
        x.give(1, 0, 1, 60);
        Houses.rule(x, 1, "lift");
        x.earn(0, 600);
        x.pass(9);
        long[] parts = {
            600, 88, 0, 0,
            0, 0, 0, 1, 11, -4, -1, 0, 0,
            0, 0, 4, 1, 1, 2, 1, 0, 4,
            0, 9};
        C.is("45 checksum", sumOf(parts), x.checksum());
        x.setHeir(0, -1);
        x.die(0);
        x.earn(0, 5);
        parts[4] = -1;
        parts[22] = 5;
        C.is("45 nobody, and a treasury", sumOf(parts), x.checksum());
        C.is("45 it only looks", sumOf(parts), x.checksum());
        C.is("45 empty", sumOf(new long[] {0, 0}), new Nomdeplume().checksum());
    }

    private static long sumOf(long[] parts) {
        long sum = 7;
        for (long part : parts) {
            sum = sum * 31 + part;
        }
        return sum;
    }

    private static void promise46LiftedShare() {
        Nomdeplume x = Houses.town();
        C.is("46 none lifted", 0f, x.liftedShare());
        Houses.rule(x, 1, "lift");
        C.is("46 one of three", 1f / 3f, x.liftedShare());
        Houses.rule(x, 1, "lift");
        C.is("46 still one", 1f / 3f, x.liftedShare());
        Houses.rule(x, 2, "lift");
        C.is("46 two of three", 2f / 3f, x.liftedShare());
        Houses.rule(x, 0, "lift");
        C.is("46 all", 1f, x.liftedShare());
        C.refused("46 no works", () -> Houses.people(2), ARITHMETIC, Nomdeplume::liftedShare);
    }

    private static void promise47MeanWidth() {
        Nomdeplume x = Houses.town();
        C.is("47 all", 4.0, x.meanWidth());
        Houses.rule(x, 1, "lift");
        C.is("47 one lifted", 9.0 / 3.0, x.meanWidth());
        Houses.rule(x, 2, "lift");
        x.give(2, 1, 0, 1);
        C.is("47 two lifted", 7.0 / 3.0, x.meanWidth());
        C.refused("47 no works", () -> Houses.people(2), ARITHMETIC, Nomdeplume::meanWidth);
    }

    /** No run of calls may make a house unsound, so that only the one answer can be looked for. */
    private static void promise48IsSound() {
        C.is("48 empty", true, new Nomdeplume().isSound());
        Nomdeplume x = Houses.town();
        x.advance(0, 333);
        x.give(0, 0, 1, 33);
        x.give(0, 1, 2, 33);
        x.tell(0, 1, 0, 2, false);
        C.is("48 shared and told", true, x.isSound());
        x.earn(0, 500);
        x.earn(0, 101);
        x.earn(2, 1);
        C.is("48 earned", true, x.isSound());
        x.die(0);
        x.earn(0, 99);
        x.die(1);
        x.earn(0, 99);
        C.is("48 inherited", true, x.isSound());
        Houses.rule(x, 0, "lift");
        Houses.rule(x, 1, "lift");
        x.write(1, 0, 99);
        x.publish(0);
        x.publish(1);
        C.is("48 lifted and published", true, x.isSound());
        Houses.rule(x, 0, "seal");
        Houses.rule(x, 0, "void");
        x.pass(50);
        C.is("48 at the end", true, x.isSound());
    }
}
