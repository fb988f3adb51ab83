/** Promises 9 to 13: shifts, shiftsByAll, hardest, position, string. */
public final class PositionsTest {
    private static final Checks CHECKS = new Checks("PositionsTest");

    public static void main(String[] args) {
        missing();
        unplayable();
        reach();
        equalSums();
        hardestOfTheLeastSum();
        open();
        strings();
        byAll();
        longPiece();
        CHECKS.end();
    }

    private static void missing() {
        FretSchool school = new FretSchool();
        int piece = Schools.compose(school, 1, 2, 3, 4, 5);
        noSuch(school, piece, 0, 0);
        Schools.build(school, 0, 4, 0, 0, 0, 0);
        noSuch(school, 1, 0, 0);
        noSuch(school, -1, 0, 0);
        noSuch(school, piece, 0, 1);
        noSuch(school, piece, 0, -1);
        CHECKS.refuses("12: note 5", Checks.INDEX, () -> school.position(piece, 5, 0));
        CHECKS.refuses("12: note -1", Checks.INDEX, () -> school.position(piece, -1, 0));
        CHECKS.refuses("13: note 5", Checks.INDEX, () -> school.string(piece, 5, 0));
        CHECKS.refuses("13: note -1", Checks.INDEX, () -> school.string(piece, -1, 0));
    }

    private static void noSuch(FretSchool school, int piece, int note, int instrument) {
        CHECKS.refuses("9: missing", Checks.INDEX, () -> school.shifts(piece, instrument));
        CHECKS.refuses("10: missing", Checks.INDEX, () -> school.shiftsByAll(piece, instrument));
        CHECKS.refuses("11: missing", Checks.INDEX, () -> school.hardest(piece, instrument));
        CHECKS.refuses("12: missing", Checks.INDEX, () -> school.position(piece, note, instrument));
        CHECKS.refuses("13: missing", Checks.INDEX, () -> school.string(piece, note, instrument));
    }

    private static void unplayable() {
        FretSchool school = new FretSchool();
        int lute = Schools.build(school, 0, 12, 20, 30, 40, 50);
        int empty = school.begin();
        CHECKS.same("9: without notes", school.shifts(empty, lute), -1);
        CHECKS.same("10: without notes", school.shiftsByAll(empty, lute), -1);
        CHECKS.same("11: without notes", school.hardest(empty, lute), -1);
        CHECKS.refuses("12: without notes", Checks.INDEX, () -> school.position(empty, 0, lute));
        CHECKS.refuses("13: without notes", Checks.INDEX, () -> school.string(empty, 0, lute));
        int[][] rows = {{19}, {63}, {25, 63}, {19, 25}, {25, 63, 25}, {0, 80}};
        for (int[] row : rows) {
            FretSchool fresh = new FretSchool();
            Schools.build(fresh, 0, 12, 20, 30, 40, 50);
            int piece = Schools.compose(fresh, row);
            CHECKS.same("9: out of reach", fresh.shifts(piece, 0), -1);
            CHECKS.same("10: out of reach", fresh.shiftsByAll(piece, 0), -1);
            CHECKS.same("11: out of reach", fresh.hardest(piece, 0), -1);
            CHECKS.same("12: out of reach", fresh.position(piece, 0, 0), -1);
            CHECKS.same("13: out of reach", fresh.string(piece, 0, 0), -1);
        }
    }

    /** With all strings alike, each fret is told by its pitch, and its lowest position is fret - 3, or 1. */
    private static void reach() {
        for (int frets = 4; frets <= 16; frets++) {
            FretSchool school = new FretSchool();
            int lute = Schools.build(school, 0, frets, 10, 10, 10, 10);
            int piece = Schools.compose(school, 10);
            CHECKS.same("12: the open string", school.position(piece, 0, lute), 1);
            for (int fret = 1; fret <= frets; fret++) {
                school.transpose(piece, 1);
                CHECKS.same("9: one note has no shifts", school.shifts(piece, lute), 0);
                CHECKS.same("11: one note has no shifts", school.hardest(piece, lute), 0);
                CHECKS.same("12: fret " + fret, school.position(piece, 0, lute), Math.max(1, fret - 3));
                CHECKS.same("13: fret " + fret, school.string(piece, 0, lute), 0);
            }
            school.transpose(piece, 1);
            CHECKS.same("9: no such fret", school.shifts(piece, lute), -1);
            CHECKS.same("12: no such fret", school.position(piece, 0, lute), -1);
            CHECKS.same("13: no such fret", school.string(piece, 0, lute), -1);
        }
    }

    /** The fret 9 is reached from 6 to 9, the fret 5 from 2 to 5: of equal sums the lowest row counts. */
    private static void equalSums() {
        FretSchool school = new FretSchool();
        int lute = Schools.build(school, 0, 16, 0, 0, 0, 0);
        int down = Schools.compose(school, 9, 5);
        CHECKS.same("9: down", school.shifts(down, lute), 1);
        row(school, down, lute, 6, 5);
        int up = Schools.compose(school, 5, 9, 16, 9);
        CHECKS.same("9: up and down", school.shifts(up, lute), 12);
        row(school, up, lute, 5, 6, 13, 9);
        int there = Schools.compose(school, 8, 0, 0, 16);
        CHECKS.same("9: open strings between", school.shifts(there, lute), 5);
        row(school, there, lute, 8, 8, 8, 13);
        CHECKS.same("11: the late shift", school.hardest(there, lute), 5);
    }

    /** A fingering with lower single shifts may exist, but the least sum and then the lowest row decide. */
    private static void hardestOfTheLeastSum() {
        FretSchool school = new FretSchool();
        int lute = Schools.build(school, 0, 16, 0, 0, 0, 0);
        int piece = Schools.compose(school, 1, 0, 16);
        CHECKS.same("9: sum", school.shifts(piece, lute), 12);
        row(school, piece, lute, 1, 1, 13);
        CHECKS.same("11: 12, though 6 and 6 would do", school.hardest(piece, lute), 12);
        int back = Schools.compose(school, 16, 0, 1, 5);
        CHECKS.same("9: there and back", school.shifts(back, lute), 13);
        row(school, back, lute, 13, 1, 1, 2);
        CHECKS.same("11: the greatest is not the last", school.hardest(back, lute), 12);
    }

    private static void open() {
        FretSchool school = new FretSchool();
        int lute = Schools.build(school, 0, 16, 0, 5, 60, 60);
        int piece = Schools.compose(school, 16, 5, 15);
        CHECKS.same("9: the string 1 reaches all, one of them open", school.shifts(piece, lute), 0);
        row(school, piece, lute, 8, 8, 8);
        school.tune(lute, 1, 60);
        CHECKS.same("9: the fret 5 is far", school.shifts(piece, lute), 15);
        row(school, piece, lute, 13, 5, 12);
        school.tune(lute, 1, 5);
        CHECKS.same("9: tuned back", school.shifts(piece, lute), 0);
    }

    private static void strings() {
        FretSchool school = new FretSchool();
        int lute = Schools.build(school, 0, 16, 40, 20, 25, 25);
        int piece = Schools.compose(school, 28, 40, 36, 25, 56);
        row(school, piece, lute, 8, 8, 8, 8, 13);
        int[] due = {1, 0, 2, 2, 0};
        for (int note = 0; note < due.length; note++) {
            CHECKS.same("13: note " + note, school.string(piece, note, lute), due[note]);
        }
        int high = Schools.build(school, 0, 4, 0, 0, 0, 60);
        int top = Schools.compose(school, 64, 60);
        CHECKS.same("13: the last string", school.string(top, 0, high), 3);
        CHECKS.same("13: the last string open", school.string(top, 1, high), 3);
    }

    private static void byAll() {
        FretSchool school = new FretSchool();
        int lute = Schools.build(school, 0, 16, 0, 0, 0, 0);
        int piece = school.begin();
        int[] notes = {1, 16, 0, 1};
        int[] due = {0, 12, 12, 24};
        for (int note = 0; note < notes.length; note++) {
            school.addNote(piece, notes[note]);
            CHECKS.same("10: " + (note + 1) + " notes", school.shiftsByAll(piece, lute), due[note]);
            CHECKS.same("9: " + (note + 1) + " notes", school.shifts(piece, lute), due[note]);
        }
        int open = Schools.compose(school, 0, 0, 0, 0);
        CHECKS.same("10: all open", school.shiftsByAll(open, lute), 0);
        school.addNote(piece, 80);
        CHECKS.refuses("10: 5 notes", Checks.STATE, () -> school.shiftsByAll(piece, lute));
        CHECKS.refuses("10: no such instrument, first", Checks.INDEX, () -> school.shiftsByAll(piece, 1));
        CHECKS.same("9: 5 notes", school.shifts(piece, lute), -1);
    }

    private static void longPiece() {
        FretSchool school = new FretSchool();
        int lute = Schools.build(school, 0, 16, 0, 0, 0, 0);
        int piece = school.begin();
        for (int note = 0; note < 8; note++) {
            school.addNote(piece, 1);
            school.addNote(piece, 16);
        }
        CHECKS.same("9: 16 notes", school.shifts(piece, lute), 15 * 12);
        CHECKS.same("12: the last", school.position(piece, 15, lute), 13);
        CHECKS.same("12: the one before", school.position(piece, 14, lute), 1);
    }

    private static void row(FretSchool school, int piece, int instrument, int... due) {
        for (int note = 0; note < due.length; note++) {
            CHECKS.same("12: piece " + piece + ", note " + note, school.position(piece, note, instrument), due[note]);
        }
    }
}
