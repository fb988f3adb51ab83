/** Promises 14 to 17: learn, level, known, next. */
public final class LessonsTest {
    private static final Checks CHECKS = new Checks("LessonsTest");

    public static void main(String[] args) {
        pupilsOutOfRange();
        order();
        levels();
        knownStays();
        next();
        nextOnSeveralInstruments();
        nextWithTheEasyOneFirst();
        CHECKS.end();
    }

    /** On a lute of 16 frets with all strings at 0 this piece has one shift, of the size told (1 to 9). */
    private static int shifting(FretSchool school, int shift) {
        return Schools.compose(school, 4, 7 + shift);
    }

    private static void pupilsOutOfRange() {
        FretSchool school = new FretSchool();
        Schools.build(school, 4, 16, 0, 0, 0, 0);
        Schools.compose(school, 1);
        for (int pupil : new int[] {-1, 5, Integer.MIN_VALUE, Integer.MAX_VALUE}) {
            CHECKS.refuses("14: pupil", Checks.ARGUMENT, () -> school.learn(pupil, 0, 0));
            CHECKS.refuses("15: pupil", Checks.ARGUMENT, () -> school.level(pupil));
            CHECKS.refuses("16: pupil", Checks.ARGUMENT, () -> school.known(pupil));
            CHECKS.refuses("17: pupil", Checks.ARGUMENT, () -> school.next(pupil));
        }
        CHECKS.same("14: pupil 4 is the last", school.learn(4, 0, 0), 2);
    }

    private static void order() {
        FretSchool school = new FretSchool();
        CHECKS.refuses("14: no piece, first", Checks.INDEX, () -> school.learn(5, 0, 0));
        int lute = Schools.build(school, 2, 16, 0, 0, 0, 0);
        CHECKS.refuses("14: no piece", Checks.INDEX, () -> school.learn(2, 0, lute));
        int piece = Schools.compose(school, 1);
        int empty = school.begin();
        int high = Schools.compose(school, 17);
        CHECKS.refuses("14: no piece, though an instrument", Checks.INDEX, () -> school.learn(2, 3, lute));
        CHECKS.refuses("14: no piece, and no pupil", Checks.INDEX, () -> school.learn(5, 3, lute));
        CHECKS.refuses("14: no piece, and another's", Checks.INDEX, () -> school.learn(1, 3, lute));
        CHECKS.refuses("14: piece -1", Checks.INDEX, () -> school.learn(2, -1, lute));
        CHECKS.refuses("14: no instrument", Checks.INDEX, () -> school.learn(5, piece, 1));
        CHECKS.refuses("14: instrument -1", Checks.INDEX, () -> school.learn(2, piece, -1));
        CHECKS.refuses("14: another's", Checks.STATE, () -> school.learn(1, piece, lute));
        CHECKS.refuses("14: without notes", Checks.STATE, () -> school.learn(2, empty, lute));
        CHECKS.refuses("14: out of reach", Checks.STATE, () -> school.learn(2, high, lute));
        CHECKS.same("16: nothing known", school.known(2), 0);
        CHECKS.same("14: learn", school.learn(2, piece, lute), 2);
        CHECKS.same("16: known", school.known(2), 1 << piece);
        CHECKS.same("16: another knows nothing", school.known(1), 0);
        CHECKS.refuses("14: once more", Checks.STATE, () -> school.learn(2, piece, lute));
    }

    private static void levels() {
        FretSchool school = new FretSchool();
        int lute = Schools.build(school, 0, 16, 0, 0, 0, 0);
        int three = shifting(school, 3);
        int one = shifting(school, 1);
        int two = shifting(school, 2);
        int twice = Schools.compose(school, 4, 10, 4, 10);
        CHECKS.same("11: three", school.hardest(three, lute), 3);
        CHECKS.same("11: twice", school.hardest(twice, lute), 3);
        CHECKS.refuses("14: above the level", Checks.STATE, () -> school.learn(0, three, lute));
        CHECKS.same("15: no change", school.level(0), 2);
        CHECKS.same("14: below the level", school.learn(0, one, lute), 2);
        CHECKS.same("14: just the level", school.learn(0, two, lute), 3);
        CHECKS.same("15: level", school.level(0), 3);
        CHECKS.same("15: another's level", school.level(1), 2);
        CHECKS.refuses("14: known, no step twice", Checks.STATE, () -> school.learn(0, two, lute));
        CHECKS.same("14: several such shifts, one step", school.learn(0, twice, lute), 4);
        CHECKS.same("14: below it now", school.learn(0, three, lute), 4);
        CHECKS.same("16: all known", school.known(0), 15);
        CHECKS.same("17: all known", school.next(0), -1);
    }

    private static void knownStays() {
        FretSchool school = new FretSchool();
        int lute = Schools.build(school, 0, 16, 0, 0, 0, 0);
        int piece = shifting(school, 1);
        school.learn(0, piece, lute);
        school.addNote(piece, 80);
        school.transpose(piece, -4);
        school.tune(lute, 0, 60);
        CHECKS.same("16: it stays known", school.known(0), 1 << piece);
        CHECKS.same("17: it is not next", school.next(0), -1);
        CHECKS.refuses("14: it is known", Checks.STATE, () -> school.learn(0, piece, lute));
        for (int i = 1; i < 8; i++) {
            school.begin();
        }
        school.addNote(7, 60);
        school.learn(0, 7, lute);
        CHECKS.same("16: bit 7", school.known(0), 1 << piece | 1 << 7);
    }

    private static void next() {
        FretSchool school = new FretSchool();
        CHECKS.same("17: nothing at all", school.next(3), -1);
        int three = shifting(school, 3);
        int two = shifting(school, 2);
        int one = shifting(school, 1);
        int alsoOne = shifting(school, 1);
        school.begin();
        CHECKS.same("17: no instrument", school.next(3), -1);
        int lute = Schools.build(school, 3, 16, 0, 0, 0, 0);
        CHECKS.same("17: not another's", school.next(2), -1);
        CHECKS.same("17: the least shift, the lowest piece", school.next(3), one);
        CHECKS.same("17: asking changes nothing", school.next(3), one);
        school.learn(3, one, lute);
        CHECKS.same("17: the other one", school.next(3), alsoOne);
        school.learn(3, alsoOne, lute);
        CHECKS.same("17: two", school.next(3), two);
        school.learn(3, two, lute);
        CHECKS.same("17: three, as the level has grown", school.next(3), three);
        school.tune(lute, 0, 0);
        school.transpose(three, 40);
        CHECKS.same("17: out of reach", school.next(3), -1);
        int alone = Schools.compose(school, 16);
        CHECKS.same("17: no shift at all", school.next(3), alone);
    }

    private static void nextOnSeveralInstruments() {
        FretSchool school = new FretSchool();
        int two = shifting(school, 2);
        int three = shifting(school, 3);
        int hard = Schools.build(school, 0, 16, 0, 0, 0, 0);
        CHECKS.same("17: on one", school.next(0), two);
        int strange = Schools.build(school, 1, 16, 10, 0, 0, 0);
        CHECKS.same("17: another's makes nothing easier", school.next(0), two);
        int easy = Schools.build(school, 0, 16, 10, 0, 0, 0);
        CHECKS.same("11: three is easy there", school.hardest(three, easy), 0);
        CHECKS.same("17: the least of both", school.next(0), three);
        CHECKS.same("17: on the only one", school.next(1), three);
        CHECKS.refuses("14: but not on the first", Checks.STATE, () -> school.learn(0, three, hard));
        CHECKS.same("14: no step, as it is easy", school.learn(0, three, easy), 2);
        CHECKS.refuses("14: not the pupil's", Checks.STATE, () -> school.learn(0, two, strange));
        CHECKS.same("17: two is left", school.next(0), two);
        CHECKS.same("14: the level grows by the one it is learned on", school.learn(0, two, hard), 3);
    }

    private static void nextWithTheEasyOneFirst() {
        FretSchool school = new FretSchool();
        int one = shifting(school, 1);
        int two = shifting(school, 2);
        int easy = Schools.build(school, 0, 16, 0, 0, 0, 0);
        Schools.build(school, 0, 16, 0, 0, 0, 0);
        school.tune(easy, 1, 9);
        CHECKS.same("11: two is easy on the first", school.hardest(two, easy), 0);
        CHECKS.same("17: of two, the easy one counts", school.next(0), two);
        school.tune(easy, 1, 8);
        CHECKS.same("17: of one, the easy one counts", school.next(0), one);
    }
}
