import java.util.NoSuchElementException;

/** Promises 1 to 8: a new object, persons and names. */
public final class PersonTests {
    private static final Class<?> INDEX = IndexOutOfBoundsException.class;
    private static final Class<?> ARGUMENT = IllegalArgumentException.class;
    private static final Class<?> UNSUPPORTED = UnsupportedOperationException.class;
    private static final Class<?> STATE = IllegalStateException.class;
    private static final Checks C = new Checks();

    public static void main(String[] args) {
        promise1New();
        promise2Person();
        promise3SetHeir();
        promise4Die();
        promise4HeirWhoDied();
        promise5IsAlive();
        promise6Name();
        promise7Sell();
        promise8Owner();
        C.close("PersonTests");
    }

    private static void promise1New() {
        Nomdeplume x = new Nomdeplume();
        C.is("1 year", 0, x.year());
        C.is("1 treasury", 0, x.treasury());
        C.is("1 kept", 0, x.kept());
        C.is("1 checksum", (7L * 31) * 31, x.checksum());
        C.is("1 sound", true, x.isSound());
        C.is("1 no person", "throws." + INDEX.getName(), Checks.answer(x, h -> h.isAlive(0)));
        C.is("1 no name", "throws." + INDEX.getName(), Checks.answer(x, h -> h.debt(0)));
        C.is("1 no work", "throws." + INDEX.getName(), Checks.answer(x, h -> h.width(0)));
    }

    private static void promise2Person() {
        Nomdeplume x = new Nomdeplume();
        for (int i = 0; i < 8; i++) {
            C.is("2 person", i, x.person());
            C.is("2 alive", true, x.isAlive(i));
            C.is("2 no heir", -1, x.setHeir(i, -1));
            C.is("2 empty purse", 0, x.purse(i));
        }
        C.refused("2 a ninth person", () -> Houses.people(8), STATE, Nomdeplume::person);
    }

    private static void promise3SetHeir() {
        Nomdeplume x = Houses.town();
        C.is("3 before", 1, x.setHeir(0, 2));
        C.is("3 the one just set", 2, x.setHeir(0, -1));
        C.is("3 none", -1, x.setHeir(0, 3));
        C.is("3 one who died", 3, x.setHeir(0, 1));
        C.is("3 of another", -1, x.setHeir(1, 0));
        C.refused("3 no such person", Houses::town, INDEX, h -> h.setHeir(4, 0));
        C.refused("3 the public has no heir", Houses::town, INDEX, h -> h.setHeir(-1, 0));
        C.refused("3 nobody twice", Houses::town, INDEX, h -> h.setHeir(-1, -1));
        C.refused("3 no such heir", Houses::town, INDEX, h -> h.setHeir(0, 4));
        C.refused("3 below none", Houses::town, INDEX, h -> h.setHeir(0, -2));
        C.refused("3 no such heir of one who died", Houses::town, INDEX, h -> h.setHeir(3, 4));
        C.refused("3 the same", Houses::town, ARGUMENT, h -> h.setHeir(0, 0));
        C.refused("3 the same, who died", Houses::town, ARGUMENT, h -> h.setHeir(3, 3));
        C.refused("3 who died", Houses::town, UNSUPPORTED, h -> h.setHeir(3, 0));
        C.refused("3 none for who died", Houses::town, UNSUPPORTED, h -> h.setHeir(3, -1));
        C.refused("3 far off", Houses::town, INDEX, h -> h.setHeir(Integer.MIN_VALUE, Integer.MAX_VALUE));
    }

    private static void promise4Die() {
        Nomdeplume x = Houses.town();
        x.name(0);
        x.sell(1, 2);
        C.is("4 names that go to the heir", 2, x.die(0));
        C.is("4 died", false, x.isAlive(0));
        C.is("4 the heir lives", true, x.isAlive(1));
        C.is("4 name 0", 1, x.owner(0));
        C.is("4 name 3", 1, x.owner(3));
        C.is("4 a name of another", 2, x.owner(1));
        C.is("4 without names", 0, Houses.people(1).die(0));
        C.is("4 no heir", 0, x.die(1));
        C.is("4 nobody", "throws." + NoSuchElementException.class.getName(), Checks.answer(x, h -> h.owner(0)));
        C.is("4 for good", "throws." + UNSUPPORTED.getName(), Checks.answer(x, h -> h.sell(0, 2)));
        C.refused("4 no such person", Houses::town, INDEX, h -> h.die(4));
        C.refused("4 nobody dies", Houses::town, INDEX, h -> h.die(-1));
        C.refused("4 twice", Houses::town, UNSUPPORTED, h -> h.die(3));
    }

    private static void promise4HeirWhoDied() {
        Nomdeplume x = Houses.town();
        x.setHeir(1, 2);
        C.is("4 the heir's name goes on", 1, x.die(1));
        C.is("4 an heir who died gets none", 0, x.die(0));
        C.is("4 nor the heir's heir", "throws." + NoSuchElementException.class.getName(), Checks.answer(x, h -> h.owner(0)));
        C.is("4 the other name stays", 2, x.owner(1));
    }

    private static void promise5IsAlive() {
        Nomdeplume x = Houses.town();
        C.is("5 alive", true, x.isAlive(0));
        C.is("5 died", false, x.isAlive(3));
        x.pass(50);
        C.is("5 years do not kill", true, x.isAlive(0));
        C.is("5 nor wake", false, x.isAlive(3));
        C.refused("5 no such person", Houses::town, INDEX, h -> h.isAlive(4));
        C.refused("5 nobody", Houses::town, INDEX, h -> h.isAlive(-1));
    }

    private static void promise6Name() {
        Nomdeplume x = Houses.people(2);
        for (int i = 0; i < 8; i++) {
            C.is("6 name", i, x.name(i % 2));
            C.is("6 owner", i % 2, x.owner(i));
            C.is("6 debt", 0, x.debt(i));
            C.is("6 reputation", 0, x.reputation(i));
        }
        C.refused("6 a ninth name", PersonTests::eightNames, STATE, h -> h.name(0));
        C.refused("6 a ninth of one who died", PersonTests::eightNames, UNSUPPORTED, h -> h.name(1));
        C.refused("6 a ninth of nobody", PersonTests::eightNames, INDEX, h -> h.name(2));
        C.refused("6 no such person", Houses::town, INDEX, h -> h.name(4));
        C.refused("6 nobody", Houses::town, INDEX, h -> h.name(-1));
        C.refused("6 who died", Houses::town, UNSUPPORTED, h -> h.name(3));
    }

    private static Nomdeplume eightNames() {
        Nomdeplume x = Houses.people(2);
        x.die(1);
        for (int i = 0; i < 8; i++) {
            x.name(0);
        }
        return x;
    }

    private static void promise7Sell() {
        Nomdeplume x = Houses.town();
        C.is("7 sell", 0, x.sell(0, 2));
        C.is("7 owner then", 2, x.owner(0));
        C.is("7 others stay", 1, x.owner(1));
        C.is("7 sell on", 2, x.sell(0, 1));
        C.is("7 and back", 1, x.sell(0, 0));
        C.refused("7 no such name", Houses::town, INDEX, h -> h.sell(3, 1));
        C.refused("7 name -1", Houses::town, INDEX, h -> h.sell(-1, 1));
        C.refused("7 no such person", Houses::town, INDEX, h -> h.sell(0, 4));
        C.refused("7 to nobody", Houses::town, INDEX, h -> h.sell(0, -1));
        C.refused("7 nobody owns it", Houses::town, UNSUPPORTED, h -> h.sell(2, 0));
        C.refused("7 to who died", Houses::town, UNSUPPORTED, h -> h.sell(0, 3));
        C.refused("7 to its owner", Houses::town, UNSUPPORTED, h -> h.sell(0, 0));
        C.refused("7 no person for nobody's", Houses::town, INDEX, h -> h.sell(2, 4));
        C.refused("7 no such name for who died", Houses::town, INDEX, h -> h.sell(3, 3));
        C.refused("7 nobody's to who died", Houses::town, UNSUPPORTED, h -> h.sell(2, 3));
    }

    private static void promise8Owner() {
        Nomdeplume x = Houses.town();
        C.is("8 owner", 0, x.owner(0));
        C.is("8 another", 1, x.owner(1));
        C.refused("8 no such name", Houses::town, INDEX, h -> h.owner(3));
        C.refused("8 name -1", Houses::town, INDEX, h -> h.owner(-1));
        C.refused("8 nobody", Houses::town, NoSuchElementException.class, h -> h.owner(2));
    }
}
