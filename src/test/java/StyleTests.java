/** Promises 22 to 28: texts, masks and what the public holds possible. */
public final class StyleTests {
    private static final Class<?> INDEX = IndexOutOfBoundsException.class;
    private static final Class<?> ARGUMENT = IllegalArgumentException.class;
    private static final Class<?> UNSUPPORTED = UnsupportedOperationException.class;
    private static final Checks C = new Checks();

    public static void main(String[] args) {
        promise22Write();
        promise23Apart();
        promise24Mask();
        promise24Refused();
        promise25Publish();
        promise26SetBound();
        promise27IsPossible();
        promise27SeveralWorks();
        promise27Refused();
        promise28Width();
        C.close("StyleTests");
    }

    private static void promise22Write() {
        Nomdeplume x = Houses.town();
        for (int i = 0; i < 5; i++) {
            C.is("22 at first", 0, x.write(0, i, 90 + i));
        }
        for (int i = 0; i < 5; i++) {
            C.is("22 before", 90 + i, x.write(0, i, 99));
            C.is("22 another text", 0, x.write(1, i, 0));
        }
        C.refused("22 no such work", Houses::town, INDEX, h -> h.write(3, 0, 1));
        C.refused("22 work -1", Houses::town, INDEX, h -> h.write(-1, 0, 1));
        C.refused("22 which 5", Houses::town, ARGUMENT, h -> h.write(0, 5, 1));
        C.refused("22 which -1", Houses::town, ARGUMENT, h -> h.write(0, -1, 1));
        C.refused("22 count 100", Houses::town, ARGUMENT, h -> h.write(0, 0, 100));
        C.refused("22 count -1", Houses::town, ARGUMENT, h -> h.write(0, 0, -1));
        C.refused("22 index before range", Houses::town, INDEX, h -> h.write(3, 5, 1));
        C.refused("22 range before published", StyleTests::published, ARGUMENT, h -> h.write(0, 5, 1));
        C.refused("22 published", StyleTests::published, UNSUPPORTED, h -> h.write(0, 0, 1));
        C.is("22 another one published", 0, published().write(1, 0, 1));
    }

    /** Work 0 has the counts 10 20 30 40 50 and is published. */
    private static Nomdeplume published() {
        Nomdeplume x = Houses.town();
        for (int i = 0; i < 5; i++) {
            x.write(0, i, 10 + 10 * i);
        }
        x.publish(0);
        return x;
    }

    private static void promise23Apart() {
        Nomdeplume x = published();
        C.is("23 the sum", 150, x.apart(0, 1));
        C.is("23 and back", 150, x.apart(1, 0));
        C.is("23 the same", 0, x.apart(0, 0));
        x.write(1, 0, 99);
        C.is("23 amounts do not cancel", 89 + 140, x.apart(0, 1));
        Nomdeplume far = Houses.town();
        for (int i = 0; i < 5; i++) {
            far.write(0, i, 99);
        }
        C.is("23 the farthest", 495, far.apart(0, 1));
        C.refused("23 no such work", Houses::town, INDEX, h -> h.apart(3, 0));
        C.refused("23 no such other", Houses::town, INDEX, h -> h.apart(0, 3));
        C.refused("23 work -1", Houses::town, INDEX, h -> h.apart(-1, 0));
        C.refused("23 other -1", Houses::town, INDEX, h -> h.apart(0, -1));
    }

    private static void promise24Mask() {
        Nomdeplume x = published();
        x.write(1, 0, 99);
        x.write(1, 1, 20);
        x.write(1, 2, 25);
        C.is("24 apart then", (89 - 7) + 0 + 0 + (40 - 7) + (50 - 7), x.mask(1, 0, 7));
        C.is("24 down", 92, x.write(1, 0, 92));
        C.is("24 like", 20, x.write(1, 1, 20));
        C.is("24 not beyond", 30, x.write(1, 2, 30));
        C.is("24 up", 7, x.write(1, 3, 7));
        C.is("24 by 40", 45, x.mask(1, 0, 40));
        C.is("24 by 40 again", 2, x.mask(1, 0, 40));
        C.is("24 by 1", 1, x.mask(1, 0, 1));
        C.is("24 the other text stays", 139, x.apart(0, 2) - x.write(1, 0, 0));
        C.is("24 of another name", 0, x.mask(2, 1, 40) - x.apart(2, 1));
    }

    private static void promise24Refused() {
        C.refused("24 no such work", Houses::town, INDEX, h -> h.mask(3, 0, 1));
        C.refused("24 no such other", Houses::town, INDEX, h -> h.mask(0, 3, 1));
        C.refused("24 work -1", Houses::town, INDEX, h -> h.mask(-1, 0, 1));
        C.refused("24 other -1", Houses::town, INDEX, h -> h.mask(0, -1, 1));
        C.refused("24 none twice", Houses::town, INDEX, h -> h.mask(3, 3, 1));
        C.refused("24 no such work before range", Houses::town, INDEX, h -> h.mask(3, 0, 41));
        C.refused("24 no such other before range", Houses::town, INDEX, h -> h.mask(0, 3, 0));
        C.refused("24 no such other before published", StyleTests::published, INDEX, h -> h.mask(0, 3, 1));
        C.refused("24 the same", Houses::town, ARGUMENT, h -> h.mask(0, 0, 1));
        C.refused("24 by 0", Houses::town, ARGUMENT, h -> h.mask(1, 0, 0));
        C.refused("24 by 41", Houses::town, ARGUMENT, h -> h.mask(1, 0, 41));
        C.refused("24 published, by 41", StyleTests::published, ARGUMENT, h -> h.mask(0, 1, 41));
        C.refused("24 published, the same", StyleTests::published, ARGUMENT, h -> h.mask(0, 0, 1));
        C.refused("24 published", StyleTests::published, UNSUPPORTED, h -> h.mask(0, 1, 1));
    }

    private static void promise25Publish() {
        Nomdeplume x = Houses.town();
        C.is("25 first", 1, x.publish(1));
        C.is("25 second", 2, x.publish(0));
        C.is("25 third", 3, x.publish(2));
        C.refused("25 no such work", Houses::town, INDEX, h -> h.publish(3));
        C.refused("25 work -1", Houses::town, INDEX, h -> h.publish(-1));
        C.refused("25 twice", StyleTests::published, UNSUPPORTED, h -> h.publish(0));
    }

    private static void promise26SetBound() {
        Nomdeplume x = new Nomdeplume();
        C.is("26 at first", 50, x.setBound(0));
        C.is("26 before", 0, x.setBound(495));
        C.is("26 again", 495, x.setBound(1));
        C.refused("26 below", Houses::town, ARGUMENT, h -> h.setBound(-1));
        C.refused("26 above", Houses::town, ARGUMENT, h -> h.setBound(496));
    }

    private static void promise27IsPossible() {
        Nomdeplume x = Houses.town();
        x.write(2, 0, 51);
        for (int i = 0; i < 4; i++) {
            C.is("27 all at first", true, x.isPossible(0, i));
        }
        Houses.rule(x, 2, "lift");
        C.is("27 lifted, hand", true, x.isPossible(2, 1));
        C.is("27 lifted, no hand", false, x.isPossible(2, 0));
        x.publish(2);
        C.is("27 itself not published", true, x.isPossible(0, 1));
        x.publish(0);
        C.is("27 farther apart", false, x.isPossible(0, 1));
        C.is("27 no hand of the other", true, x.isPossible(0, 2));
        C.is("27 its own hand", true, x.isPossible(0, 0));
        x.setBound(51);
        C.is("27 not farther than the bound", true, x.isPossible(0, 1));
        x.setBound(50);
        C.is("27 farther again", false, x.isPossible(0, 1));
        Houses.rule(x, 0, "lift");
        C.is("27 lifted, of its hands alone", false, x.isPossible(0, 2));
        C.is("27 lifted, its hand", true, x.isPossible(0, 0));
    }

    private static void promise27SeveralWorks() {
        Nomdeplume x = Houses.town();
        x.write(2, 0, 60);
        x.sign(1, 1);
        x.publish(0);
        x.publish(2);
        C.is("27 the other shut", true, x.isPossible(0, 1));
        Houses.rule(x, 2, "lift");
        C.is("27 the other lifted", false, x.isPossible(0, 1));
        Houses.rule(x, 3, "lift");
        C.is("27 a near one not published", false, x.isPossible(0, 1));
        x.publish(3);
        C.is("27 a near one published", true, x.isPossible(0, 1));
        Nomdeplume y = Houses.town();
        y.write(0, 0, 99);
        y.publish(0);
        y.publish(1);
        Houses.rule(y, 1, "lift");
        C.is("27 a true hand may be ruled out", false, y.isPossible(0, 0));
        y.give(1, 0, 2, 100);
        C.is("27 who gave all away stays a hand", false, y.isPossible(0, 0));
        C.is("27 the new hand, too", false, y.isPossible(0, 2));
        Nomdeplume z = Houses.town();
        z.write(0, 0, 99);
        z.publish(0);
        z.publish(2);
        Houses.rule(z, 0, "lift");
        C.is("27 the first work counts, too", false, z.isPossible(2, 0));
    }

    private static void promise27Refused() {
        C.refused("27 no such work", Houses::town, INDEX, h -> h.isPossible(3, 0));
        C.refused("27 work -1", Houses::town, INDEX, h -> h.isPossible(-1, 0));
        C.refused("27 no such person", Houses::town, INDEX, h -> h.isPossible(0, 4));
        C.refused("27 person -1", Houses::town, INDEX, h -> h.isPossible(0, -1));
    }

    private static void promise28Width() {
        Nomdeplume x = Houses.town();
        C.is("28 all, who died too", 4, x.width(0));
        x.person();
        C.is("28 one more", 5, x.width(0));
        x.write(2, 4, 99);
        x.publish(0);
        x.publish(2);
        Houses.rule(x, 2, "lift");
        C.is("28 one fewer", 4, x.width(0));
        C.is("28 lifted", 1, x.width(2));
        x.give(2, 1, 2, 1);
        C.is("28 two hands", 2, x.width(2));
        C.is("28 two fewer", 3, x.width(0));
        C.is("28 not published", 5, x.width(1));
        C.refused("28 no such work", Houses::town, INDEX, h -> h.width(3));
        C.refused("28 work -1", Houses::town, INDEX, h -> h.width(-1));
    }
}
