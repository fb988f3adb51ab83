/** Each boundary that the promises 1 to 5 name: a new object, begin, addNote, transpose, pitch. */
public final class PieceEdgesTest {
    private static final Checks CHECKS = new Checks("PieceEdgesTest");

    public static void main(String[] args) {
        newObjectHasNoPieces();
        newObjectHasNoInstruments();
        newObjectHasNoWoodsAndNoOrders();
        newObjectIsAtDayNull();
        beginAtMostEight();
        beginWithoutNotes();
        addNoteToAPieceThatThereIs();
        addNotePitchRange();
        addNoteAtMostSixteen();
        addNoteFirstException();
        transposeAPieceThatThereIs();
        transposeByRange();
        transposeToTheHighestAndTheLowestPitch();
        transposeAllNotesOrNone();
        transposeAPieceWithoutNotes();
        transposeAFullPiece();
        transposeFirstException();
        pitchOfAPieceThatThereIs();
        pitchOfANoteThatThereIs();
        pitchOfTheLastNoteOfAFullPiece();
        CHECKS.end();
    }

    private static Trial trial(String sentence) {
        return new Trial(CHECKS, sentence);
    }

    private static void newObjectHasNoPieces() {
        Trial trial = trial("1: no pieces");
        trial.refuses(Checks.INDEX, "addNote", 0, 0);
        trial.refuses(Checks.INDEX, "transpose", 0, 0);
        trial.refuses(Checks.INDEX, "pitch", 0, 0);
        for (int pupil = 0; pupil < 5; pupil++) {
            trial.answers(2, "level", pupil);
            trial.answers(0, "known", pupil);
            trial.answers(-1, "next", pupil);
        }
        trial.answers(0, "begin");
    }

    private static void newObjectHasNoInstruments() {
        Trial trial = trial("1: no instruments");
        trial.answers(0, "instruments");
        trial.refuses(Checks.INDEX, "tune", 0, 0, 0);
        trial.refuses(Checks.INDEX, "owner", 0);
        trial.compose(1);
        for (String method : new String[] {"shifts", "shiftsByAll", "hardest", "position", "string", "learn"}) {
            trial.refuses(Checks.INDEX, method, 0, 0, 0);
        }
        trial.answers(-1, "next", 0);
        trial.answers(0, "instruments");
    }

    private static void newObjectHasNoWoodsAndNoOrders() {
        Trial trial = trial("1: no woods");
        for (int wood = 0; wood < 4; wood++) {
            trial.refuses(Checks.STATE, "order", 0, wood, 4);
            trial.answers(1, "addWood", wood, 1);
        }
        trial.refuses(Checks.INDEX, "ready", 0);
        trial.refuses(Checks.INDEX, "fetch", 0, 0, 0, 0, 0);
    }

    private static void newObjectIsAtDayNull() {
        Trial trial = trial("1: today is 0");
        trial.answers(0, "today");
        trial.answers(1, "pass", 1);
        trial("1: another object has a today of its own").answers(0, "today");
    }

    private static void beginAtMostEight() {
        Trial trial = trial("2: there are at most 8 pieces");
        for (int piece = 0; piece < 8; piece++) {
            trial.answers(piece, "begin");
        }
        trial.refuses(Checks.STATE, "begin");
        trial.refuses(Checks.STATE, "begin");
        trial.refuses(Checks.INDEX, "addNote", 8, 0);
        trial.answers(1, "addNote", 7, 0);
        trial.refuses(Checks.STATE, "begin");
    }

    private static void beginWithoutNotes() {
        Trial trial = trial("2: begins a piece without notes");
        for (int piece = 0; piece < 8; piece++) {
            trial.answers(piece, "begin");
            trial.refuses(Checks.INDEX, "pitch", piece, 0);
            trial.answers(1, "addNote", piece, 80 - piece);
            trial.refuses(Checks.INDEX, "pitch", piece, 1);
        }
    }

    private static void addNoteToAPieceThatThereIs() {
        Trial trial = trial("3: if there is no such piece");
        trial.refuses(Checks.INDEX, "addNote", 0, 0);
        for (int piece = 0; piece < 8; piece++) {
            trial.goes("begin");
            trial.answers(1, "addNote", piece, 0);
            trial.refusesOutside(Checks.INDEX, 0, piece, other -> Call.of("addNote", other, 0));
        }
        trial.answers(2, "addNote", 0, 0);
    }

    private static void addNotePitchRange() {
        Trial trial = trial("3: pitch: 0 to 80");
        trial.goes("begin");
        trial.refusesOutside(Checks.ARGUMENT, 0, 80, pitch -> Call.of("addNote", 0, pitch));
        trial.answers(1, "addNote", 0, 0);
        trial.answers(2, "addNote", 0, 80);
        trial.refusesOutside(Checks.ARGUMENT, 0, 80, pitch -> Call.of("addNote", 0, pitch));
        trial.answers(0, "pitch", 0, 0);
        trial.answers(80, "pitch", 0, 1);
    }

    private static void addNoteAtMostSixteen() {
        Trial trial = trial("3: if it has 16");
        trial.goes("begin");
        trial.goes("begin");
        for (int note = 1; note <= 16; note++) {
            trial.answers(note, "addNote", 0, note);
        }
        trial.refuses(Checks.STATE, "addNote", 0, 17);
        trial.refuses(Checks.STATE, "addNote", 0, 0);
        trial.answers(16, "pitch", 0, 15);
        trial.answers(1, "addNote", 1, 17);
    }

    private static void addNoteFirstException() {
        Trial trial = trial("3: the exception listed first");
        trial.refuses(Checks.INDEX, "addNote", 0, 81);
        for (int piece = 0; piece < 8; piece++) {
            trial.compose(new int[16]);
        }
        trial.refuses(Checks.INDEX, "addNote", 8, 0);
        trial.refuses(Checks.INDEX, "addNote", 8, 81);
        trial.refuses(Checks.INDEX, "addNote", -1, -1);
        trial.refuses(Checks.ARGUMENT, "addNote", 7, 81);
        trial.refuses(Checks.ARGUMENT, "addNote", 7, -1);
        trial.refuses(Checks.STATE, "addNote", 7, 80);
    }

    private static void transposeAPieceThatThereIs() {
        Trial trial = trial("4: if there is no such piece");
        trial.refuses(Checks.INDEX, "transpose", 0, 0);
        for (int piece = 0; piece < 8; piece++) {
            trial.compose(40);
            trial.refusesOutside(Checks.INDEX, 0, piece, other -> Call.of("transpose", other, 1));
            trial.goes("transpose", piece, 1);
            trial.answers(41, "pitch", piece, 0);
        }
        trial.goes("transpose", 0, 1);
        trial.answers(42, "pitch", 0, 0);
        trial.answers(41, "pitch", 1, 0);
    }

    private static void transposeByRange() {
        Trial trial = trial("4: by: -40 to 40");
        trial.compose(40);
        trial.refusesOutside(Checks.ARGUMENT, -40, 40, by -> Call.of("transpose", 0, by));
        trial.goes("transpose", 0, 40);
        trial.answers(80, "pitch", 0, 0);
        trial.goes("transpose", 0, -40);
        trial.answers(40, "pitch", 0, 0);
        trial.goes("transpose", 0, -40);
        trial.answers(0, "pitch", 0, 0);
        trial.goes("transpose", 0, 0);
        trial.answers(0, "pitch", 0, 0);
    }

    private static void transposeToTheHighestAndTheLowestPitch() {
        Trial trial = trial("4: if some pitch would not be from 0 to 80");
        trial.compose(41);
        trial.refuses(Checks.STATE, "transpose", 0, 40);
        trial.goes("transpose", 0, 39);
        trial.answers(80, "pitch", 0, 0);
        trial.refuses(Checks.STATE, "transpose", 0, 1);
        trial.compose(39);
        trial.refuses(Checks.STATE, "transpose", 1, -40);
        trial.goes("transpose", 1, -39);
        trial.answers(0, "pitch", 1, 0);
        trial.refuses(Checks.STATE, "transpose", 1, -1);
    }

    private static void transposeAllNotesOrNone() {
        Trial trial = trial("4: some pitch, and a call that throws changes nothing");
        int[][] rows = {{79, 40, 40}, {40, 79, 40}, {40, 40, 79}};
        for (int[] row : rows) {
            int high = trial.compose(row);
            trial.refuses(Checks.STATE, "transpose", high, 2);
            trial.goes("transpose", high, 1);
            int low = trial.compose(80 - row[0], 80 - row[1], 80 - row[2]);
            trial.refuses(Checks.STATE, "transpose", low, -2);
            trial.goes("transpose", low, -1);
            for (int note = 0; note < 3; note++) {
                trial.answers(row[note] + 1, "pitch", high, note);
                trial.answers(79 - row[note], "pitch", low, note);
            }
        }
    }

    private static void transposeAPieceWithoutNotes() {
        Trial trial = trial("4: a piece without notes has no pitch that could leave the range");
        trial.goes("begin");
        trial.goes("transpose", 0, 40);
        trial.goes("transpose", 0, 40);
        trial.goes("transpose", 0, 40);
        trial.goes("transpose", 0, -40);
        trial.refusesOutside(Checks.ARGUMENT, -40, 40, by -> Call.of("transpose", 0, by));
        trial.answers(1, "addNote", 0, 80);
        trial.answers(80, "pitch", 0, 0);
    }

    private static void transposeAFullPiece() {
        Trial trial = trial("4: moves all notes, up to the last of 16");
        int piece = trial.compose(0, 0, 0, 0, 0, 0, 0, 0, 0, 0, 0, 0, 0, 0, 0, 40);
        trial.refuses(Checks.STATE, "transpose", piece, -1);
        trial.goes("transpose", piece, 40);
        trial.refuses(Checks.STATE, "transpose", piece, 1);
        trial.answers(40, "pitch", piece, 0);
        trial.answers(40, "pitch", piece, 14);
        trial.answers(80, "pitch", piece, 15);
    }

    private static void transposeFirstException() {
        Trial trial = trial("4: the exception listed first");
        trial.refuses(Checks.INDEX, "transpose", 0, 41);
        trial.compose(80);
        trial.compose(0);
        trial.refuses(Checks.INDEX, "transpose", 2, 41);
        trial.refuses(Checks.INDEX, "transpose", 2, 1);
        trial.refuses(Checks.INDEX, "transpose", -1, -41);
        trial.refuses(Checks.ARGUMENT, "transpose", 0, 41);
        trial.refuses(Checks.ARGUMENT, "transpose", 1, -41);
        trial.refuses(Checks.STATE, "transpose", 0, 40);
        trial.refuses(Checks.STATE, "transpose", 1, -40);
    }

    private static void pitchOfAPieceThatThereIs() {
        Trial trial = trial("5: if there is no such piece");
        trial.refuses(Checks.INDEX, "pitch", 0, 0);
        for (int piece = 0; piece < 8; piece++) {
            trial.compose(10 * piece);
            trial.refusesOutside(Checks.INDEX, 0, piece, other -> Call.of("pitch", other, 0));
        }
        trial.answers(0, "pitch", 0, 0);
        trial.answers(70, "pitch", 7, 0);
    }

    private static void pitchOfANoteThatThereIs() {
        Trial trial = trial("5: if there is no such note");
        trial.goes("begin");
        trial.refuses(Checks.INDEX, "pitch", 0, 0);
        trial.compose(1, 2, 3, 4);
        trial.goes("addNote", 0, 80);
        trial.answers(80, "pitch", 0, 0);
        trial.refusesOutside(Checks.INDEX, 0, 0, note -> Call.of("pitch", 0, note));
        trial.answers(1, "pitch", 1, 0);
        trial.answers(4, "pitch", 1, 3);
        trial.refusesOutside(Checks.INDEX, 0, 3, note -> Call.of("pitch", 1, note));
    }

    private static void pitchOfTheLastNoteOfAFullPiece() {
        Trial trial = trial("5: the notes of a full piece");
        trial.compose(0, 5, 10, 15, 20, 25, 30, 35, 40, 45, 50, 55, 60, 65, 70, 75);
        for (int note = 0; note < 16; note++) {
            trial.answers(5 * note, "pitch", 0, note);
        }
        trial.refusesOutside(Checks.INDEX, 0, 15, note -> Call.of("pitch", 0, note));
    }
}
