/** The houses that the tests start from. */
final class Houses {
    private Houses() {
    }

    static Nomdeplume people(int many) {
        Nomdeplume x = new Nomdeplume();
        for (int i = 0; i < many; i++) {
            x.person();
        }
        return x;
    }

    /**
     * Four persons, of whom 3 died without an heir; 1 is the heir of 0. Name 0 is owned by 0, name 1
     * by 1, name 2 by nobody. Works 0 and 1 are signed by name 0, work 2 by name 1, each by its owner.
     */
    static Nomdeplume town() {
        Nomdeplume x = people(4);
        x.setHeir(0, 1);
        x.name(0);
        x.name(1);
        x.name(3);
        x.die(3);
        x.sign(0, 0);
        x.sign(0, 0);
        x.sign(1, 1);
        return x;
    }

    /** Types a word and has the court give it about a work. */
    static boolean rule(Nomdeplume x, int work, String word) {
        for (char letter : word.toCharArray()) {
            x.type(letter);
        }
        return x.verdict(work);
    }

    /** Person 0 owns name 0 and signs so many works by it; persons so many. */
    static Nomdeplume shelf(int persons, int works) {
        Nomdeplume x = people(persons);
        x.name(0);
        for (int i = 0; i < works; i++) {
            x.sign(0, 0);
        }
        return x;
    }

    /**
     * As many persons, names and works as there may be: person i owns name i, and works i and i + 8 are
     * signed by that name and that person. Nobody has an heir, and nothing else happened.
     */
    static Nomdeplume wide() {
        Nomdeplume x = named();
        for (int i = 0; i < 16; i++) {
            x.sign(i % 8, i % 8);
        }
        return x;
    }

    /** Eight persons, each of whom owns the name of the same number. */
    static Nomdeplume named() {
        Nomdeplume x = people(8);
        for (int i = 0; i < 8; i++) {
            x.name(i);
        }
        return x;
    }

    /** The wide house, with 20 licences, 60 links told and 6 letters typed, too. */
    static Nomdeplume full() {
        Nomdeplume x = wide();
        for (int i = 0; i < 20; i++) {
            x.license(i % 8, (i + 1) % 8, 0, i, false);
        }
        for (int i = 0; i < 60; i++) {
            x.tell(i % 8, (i + 1) % 8, i % 16, i % 8, i % 3 == 0);
        }
        for (char letter : "veiled".toCharArray()) {
            x.type(letter);
        }
        return x;
    }

    /** Lets any number of years go by, 50 at most at a time. */
    static Nomdeplume pass(Nomdeplume x, int years) {
        for (int left = years; left > 0; left -= 50) {
            x.pass(Math.min(left, 50));
        }
        return x;
    }
}
