/** Promises 1 to 5: a new object, begin, addNote, transpose, pitch. */
public final class PiecesTest {
    private static final Checks CHECKS = new Checks("PiecesTest");

    public static void main(String[] args) {
        newObject();
        begin();
        addNote();
        transpose();
        pitch();
        CHECKS.end();
    }

    private static void newObject() {
        FretSchool school = new FretSchool();
        CHECKS.same("1: NONE", FretSchool.NONE, -1);
        CHECKS.same("1: today", school.today(), 0);
        CHECKS.same("1: instruments", school.instruments(), 0);
        CHECKS.refuses("1: no piece", Checks.INDEX, () -> school.addNote(0, 0));
        CHECKS.refuses("1: no order", Checks.INDEX, () -> school.ready(0));
        for (int wood = 0; wood < 4; wood++) {
            CHECKS.same("1: the stock was 0", school.addWood(wood, 1), 1);
        }
        for (int pupil = 0; pupil < 5; pupil++) {
            CHECKS.same("1: level", school.level(pupil), 2);
            CHECKS.same("1: known", school.known(pupil), 0);
        }
        FretSchool other = new FretSchool();
        other.begin();
        CHECKS.refuses("1: objects share nothing", Checks.INDEX, () -> school.addNote(0, 0));
    }

    private static void begin() {
        FretSchool school = new FretSchool();
        for (int piece = 0; piece < 8; piece++) {
            CHECKS.same("2: begin", school.begin(), piece);
            final int begun = piece;
            CHECKS.refuses("2: it has no notes", Checks.INDEX, () -> school.pitch(begun, 0));
        }
        CHECKS.refuses("2: the ninth", Checks.STATE, () -> school.begin());
        CHECKS.refuses("2: the ninth again", Checks.STATE, () -> school.begin());
        CHECKS.refuses("2: there is no piece 8", Checks.INDEX, () -> school.addNote(8, 0));
    }

    private static void addNote() {
        FretSchool school = new FretSchool();
        int piece = school.begin();
        CHECKS.refuses("3: piece 1", Checks.INDEX, () -> school.addNote(1, 10));
        CHECKS.refuses("3: piece -1 first", Checks.INDEX, () -> school.addNote(-1, 81));
        CHECKS.refuses("3: pitch -1", Checks.ARGUMENT, () -> school.addNote(piece, -1));
        CHECKS.refuses("3: pitch 81", Checks.ARGUMENT, () -> school.addNote(piece, 81));
        CHECKS.refuses("3: pitch far above", Checks.ARGUMENT, () -> school.addNote(piece, Integer.MAX_VALUE));
        for (int note = 0; note < 16; note++) {
            CHECKS.same("3: addNote", school.addNote(piece, note * 80 / 15), note + 1);
        }
        CHECKS.refuses("3: the 17th", Checks.STATE, () -> school.addNote(piece, 0));
        CHECKS.refuses("3: the 17th, pitch first", Checks.ARGUMENT, () -> school.addNote(piece, 81));
        for (int note = 0; note < 16; note++) {
            CHECKS.same("3: the notes stand", school.pitch(piece, note), note * 80 / 15);
        }
        CHECKS.refuses("3: no 17th stands", Checks.INDEX, () -> school.pitch(piece, 16));
    }

    private static void transpose() {
        FretSchool school = new FretSchool();
        int piece = Schools.compose(school, 40, 0, 40);
        int other = Schools.compose(school, 7);
        CHECKS.refuses("4: piece 2", Checks.INDEX, () -> school.transpose(2, 41));
        CHECKS.refuses("4: by 41", Checks.ARGUMENT, () -> school.transpose(piece, 41));
        CHECKS.refuses("4: by -41", Checks.ARGUMENT, () -> school.transpose(piece, -41));
        CHECKS.refuses("4: by -1", Checks.STATE, () -> school.transpose(piece, -1));
        CHECKS.same("4: nothing moved", school.pitch(piece, 0), 40);
        school.transpose(piece, 40);
        CHECKS.same("4: up, note 0", school.pitch(piece, 0), 80);
        CHECKS.same("4: up, note 1", school.pitch(piece, 1), 40);
        CHECKS.same("4: up, note 2", school.pitch(piece, 2), 80);
        CHECKS.same("4: the other stays", school.pitch(other, 0), 7);
        CHECKS.refuses("4: by 1", Checks.STATE, () -> school.transpose(piece, 1));
        school.transpose(piece, 0);
        school.transpose(piece, -40);
        CHECKS.same("4: down, note 1", school.pitch(piece, 1), 0);
        CHECKS.same("4: down, note 2", school.pitch(piece, 2), 40);
        int last = Schools.compose(school, 1, 0);
        CHECKS.refuses("4: the last note only", Checks.STATE, () -> school.transpose(last, -1));
        int first = Schools.compose(school, 0, 1);
        CHECKS.refuses("4: the first note only", Checks.STATE, () -> school.transpose(first, -1));
        int full = Schools.compose(school, new int[16]);
        school.transpose(full, 3);
        CHECKS.same("4: the last of 16", school.pitch(full, 15), 3);
        int empty = school.begin();
        school.transpose(empty, 40);
        CHECKS.same("4: a note after it is not moved", school.addNote(empty, 80), 1);
        CHECKS.same("4: it is as told", school.pitch(empty, 0), 80);
    }

    private static void pitch() {
        FretSchool school = new FretSchool();
        CHECKS.refuses("5: no piece", Checks.INDEX, () -> school.pitch(0, 0));
        int piece = Schools.compose(school, 0, 80, 33);
        CHECKS.same("5: note 0", school.pitch(piece, 0), 0);
        CHECKS.same("5: note 1", school.pitch(piece, 1), 80);
        CHECKS.same("5: note 2", school.pitch(piece, 2), 33);
        CHECKS.refuses("5: note 3", Checks.INDEX, () -> school.pitch(piece, 3));
        CHECKS.refuses("5: note -1", Checks.INDEX, () -> school.pitch(piece, -1));
        CHECKS.refuses("5: piece -1", Checks.INDEX, () -> school.pitch(-1, 0));
        CHECKS.refuses("5: piece 1", Checks.INDEX, () -> school.pitch(1, 0));
    }
}
