/** Makes schools in the states that the tests start from. */
final class Schools {
    private Schools() {
    }

    /** Adds an instrument, by waiting for it; it answers the instrument's number. */
    static int build(FretSchool school, int pupil, int frets, int... open) {
        school.addWood(0, 3);
        int order = school.order(pupil, 0, frets);
        school.pass(2 * frets);
        return school.fetch(order, open[0], open[1], open[2], open[3]);
    }

    static int compose(FretSchool school, int... pitches) {
        int piece = school.begin();
        for (int pitch : pitches) {
            school.addNote(piece, pitch);
        }
        return piece;
    }
}
