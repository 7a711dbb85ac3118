/**
 * Asks a house for all that can be seen of a small one, in some 300 calls, and spends it: the last
 * calls change the house, for heirs, letters, licences and what may be told show in no other way.
 */
final class Probe {
    private static final int PERSONS = 4;
    private static final int NAMES = 3;
    private static final int WORKS = 3;

    private final Nomdeplume house;
    private final StringBuilder seen = new StringBuilder();

    private Probe(Nomdeplume house) {
        this.house = house;
    }

    static String of(Nomdeplume house) {
        Probe probe = new Probe(house);
        probe.wholeHouse();
        probe.personsAndNames();
        probe.works();
        probe.changes();
        return probe.seen.toString();
    }

    private void note(String what, Checks.Call call) {
        seen.append(what).append('=').append(Checks.answer(house, call)).append(' ');
    }

    private void wholeHouse() {
        note("kept", Nomdeplume::kept);
        note("treasury", Nomdeplume::treasury);
        note("year", Nomdeplume::year);
        note("checksum", Nomdeplume::checksum);
        note("share", Nomdeplume::liftedShare);
        note("mean", Nomdeplume::meanWidth);
        note("sound", Nomdeplume::isSound);
    }

    private void personsAndNames() {
        for (int i = 0; i < PERSONS; i++) {
            int person = i;
            note("alive" + person, x -> x.isAlive(person));
            note("purse" + person, x -> x.purse(person));
        }
        for (int i = 0; i < NAMES; i++) {
            int name = i;
            note("owner" + name, x -> x.owner(name));
            note("debt" + name, x -> x.debt(name));
            note("reputation" + name, x -> x.reputation(name));
            for (int k = 0; k < PERSONS; k++) {
                int person = k;
                note("sign" + name + person, x -> x.canSign(name, person));
            }
        }
    }

    private void works() {
        for (int i = 0; i < WORKS; i++) {
            int work = i;
            note("name" + work, x -> x.nameOf(work));
            note("first" + work, x -> x.firstHand(work));
            note("lifted" + work, x -> x.isLifted(work));
            note("width" + work, x -> x.width(work));
            note("law" + work, x -> x.isProtected(work, x.year() + 71));
            for (char right : new char[] {'f', 's', 'p'}) {
                note("holder" + work + right, x -> x.holder(work, right));
            }
            for (int k = 0; k < PERSONS; k++) {
                handsAndLinks(work, k);
            }
        }
    }

    private void handsAndLinks(int work, int person) {
        note("shares" + work + person, x -> x.shares(work, person));
        note("possible" + work + person, x -> x.isPossible(work, person));
        note("audit" + work + person, x -> x.audit(person, work));
        for (int i = 0; i < PERSONS; i++) {
            int hand = i;
            note("knows" + person + work + hand, x -> x.knows(person, work, hand));
        }
    }

    private void changes() {
        note("bound", x -> x.setBound(0));
        note("letters", x -> x.type('t'));
        for (int i = 0; i < WORKS; i++) {
            int work = i;
            tells(work);
            for (int k = 0; k < 5; k++) {
                int which = k;
                note("text" + work + which, x -> x.write(work, which, 0));
            }
            note("publish" + work, x -> x.publish(work));
            note("verdict" + work, x -> x.verdict(work));
        }
        for (int i = 0; i < PERSONS; i++) {
            int person = i;
            note("heir" + person, x -> x.setHeir(person, -1));
        }
        for (int i = 0; i < NAMES; i++) {
            int name = i;
            note("license" + name, x -> x.license(name, 1, 500, 500, false));
        }
        note("person", Nomdeplume::person);
        note("name", x -> x.name(0));
        note("work", x -> x.sign(0, 0));
        note("pass", x -> x.pass(1));
    }

    private void tells(int work) {
        for (int i = 0; i < PERSONS; i++) {
            for (int k = 0; k < PERSONS; k++) {
                int teller = i;
                int hand = k;
                note("tell" + work + teller + hand, x -> x.tell(teller, (teller + 1) % PERSONS, work, hand, true));
            }
        }
    }
}
