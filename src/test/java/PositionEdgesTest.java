/** Each boundary that 'Positions' and the promises 9 to 13 name: shifts, shiftsByAll, hardest, position, string. */
public final class PositionEdgesTest {
    private static final Checks CHECKS = new Checks("PositionEdgesTest");
    private static final String[] ASKS = {"shifts", "shiftsByAll", "hardest"};
    private static final String[] NOTE_ASKS = {"position", "string"};

    public static void main(String[] args) {
        pieceThatThereIs();
        instrumentThatThereIs();
        noteThatThereIs();
        pieceWithoutNotes();
        oneNoteOutOfReachIsEnough();
        fretsThatThereAre();
        highestAndLowestPitch();
        eachStringReaches();
        positionsOfAnInstrument();
        handReachesThreeFretsOn();
        openStringInEveryPosition();
        byAllUpToFourNotes();
        byAllFirstException();
        hardestWithoutShifts();
        hardestIsAnyOfTheShifts();
        lowestRowOfEqualSums();
        lowestRowDecidesTheHardest();
        lowestStringInThePosition();
        fullPiece();
        CHECKS.end();
    }

    private static Trial trial(String sentence) {
        return new Trial(CHECKS, sentence);
    }

    private static void cannotBePlayed(Trial trial, int piece, int notes, int instrument) {
        for (String ask : ASKS) {
            trial.answers(-1, ask, piece, instrument);
        }
        for (int note = 0; note < notes; note++) {
            trial.answers(-1, "position", piece, note, instrument);
            trial.answers(-1, "string", piece, note, instrument);
        }
    }

    private static void row(Trial trial, int piece, int instrument, int... due) {
        for (int note = 0; note < due.length; note++) {
            trial.answers(due[note], "position", piece, note, instrument);
        }
    }

    private static void pieceThatThereIs() {
        Trial trial = trial("9 to 13: if there is no such piece");
        int lute = trial.plainLute();
        for (int piece = -1; piece < 8; piece++) {
            final int last = piece;
            for (String ask : ASKS) {
                trial.refusesOutside(Checks.INDEX, 0, last, other -> Call.of(ask, other, lute));
            }
            for (String ask : NOTE_ASKS) {
                trial.refusesOutside(Checks.INDEX, 0, last, other -> Call.of(ask, other, 0, lute));
            }
            if (piece < 7) {
                trial.compose(1);
            }
        }
        trial.answers(0, "shifts", 7, lute);
        trial.answers(0, "shiftsByAll", 7, lute);
        trial.answers(0, "hardest", 7, lute);
        trial.answers(1, "position", 7, 0, lute);
        trial.answers(0, "string", 7, 0, lute);
    }

    private static void instrumentThatThereIs() {
        Trial trial = trial("9 to 13: if there is no such instrument");
        int piece = trial.compose(1);
        for (int instrument = -1; instrument < 8; instrument++) {
            final int last = instrument;
            for (String ask : ASKS) {
                trial.refusesOutside(Checks.INDEX, 0, last, other -> Call.of(ask, piece, other));
            }
            for (String ask : NOTE_ASKS) {
                trial.refusesOutside(Checks.INDEX, 0, last, other -> Call.of(ask, piece, 0, other));
            }
            if (instrument < 7) {
                trial.build(0, 4, 0, 0, 0, 0);
            }
        }
        trial.answers(0, "shifts", piece, 7);
        trial.answers(0, "shiftsByAll", piece, 7);
        trial.answers(0, "hardest", piece, 7);
        trial.answers(1, "position", piece, 0, 7);
        trial.answers(0, "string", piece, 0, 7);
    }

    private static void noteThatThereIs() {
        Trial trial = trial("12 and 13: if there is no such note");
        int lute = trial.plainLute();
        int other = trial.compose(1, 2, 3, 4);
        int piece = trial.compose(1, 2);
        int unplayable = trial.compose(1, 80);
        int empty = trial.compose();
        for (String ask : NOTE_ASKS) {
            trial.refusesOutside(Checks.INDEX, 0, 1, note -> Call.of(ask, piece, note, lute));
            trial.refusesOutside(Checks.INDEX, 0, 1, note -> Call.of(ask, unplayable, note, lute));
            trial.refusesOutside(Checks.INDEX, 0, -1, note -> Call.of(ask, empty, note, lute));
            trial.refuses(Checks.INDEX, ask, piece, 1, 1);
            trial.refuses(Checks.INDEX, ask, piece, 2, 1);
        }
        row(trial, piece, lute, 1, 1);
        trial.answers(1, "position", other, 3, lute);
        trial.answers(-1, "position", unplayable, 1, lute);
        trial.answers(-1, "string", unplayable, 1, lute);
    }

    private static void pieceWithoutNotes() {
        Trial trial = trial("9 to 13: a piece can be played, if it has notes");
        int lute = trial.plainLute();
        int piece = trial.compose();
        cannotBePlayed(trial, piece, 0, lute);
        trial.refuses(Checks.INDEX, "position", piece, 0, lute);
        trial.refuses(Checks.INDEX, "string", piece, 0, lute);
        trial.goes("addNote", piece, 0);
        trial.answers(0, "shifts", piece, lute);
        trial.answers(0, "shiftsByAll", piece, lute);
    }

    private static void oneNoteOutOfReachIsEnough() {
        Trial trial = trial("9 to 13: a fingering gives each note a position");
        int lute = trial.build(0, 12, 20, 20, 20, 20);
        int[][] rows = {{19, 25, 25}, {25, 19, 25}, {25, 25, 19}, {33, 25, 25}, {25, 33, 25}, {25, 25, 33}};
        for (int[] row : rows) {
            cannotBePlayed(trial, trial.compose(row), 3, lute);
        }
        int within = trial.compose(20, 25, 32);
        trial.answers(4, "shifts", within, lute);
        trial.answers(4, "shiftsByAll", within, lute);
    }

    private static void fretsThatThereAre() {
        for (int frets = 4; frets <= 16; frets++) {
            Trial trial = trial("9 to 13: the fret 0, or a fret that there is");
            int lute = trial.build(0, frets, 30, 30, 30, 30);
            cannotBePlayed(trial, trial.compose(29), 1, lute);
            row(trial, trial.compose(30), lute, 1);
            row(trial, trial.compose(31), lute, 1);
            row(trial, trial.compose(29 + frets), lute, Math.max(1, frets - 4));
            int last = trial.compose(30 + frets);
            row(trial, last, lute, frets - 3);
            trial.answers(0, "string", last, 0, lute);
            cannotBePlayed(trial, trial.compose(31 + frets), 1, lute);
        }
    }

    private static void highestAndLowestPitch() {
        Trial trial = trial("9 to 13: pitches 0 to 80, open strings 0 to 60");
        int high = trial.build(0, 16, 60, 60, 60, 60);
        int low = trial.build(0, 16, 0, 0, 0, 0);
        int lowest = trial.compose(0);
        int highest = trial.compose(80);
        cannotBePlayed(trial, highest, 1, high);
        cannotBePlayed(trial, highest, 1, low);
        cannotBePlayed(trial, lowest, 1, high);
        row(trial, lowest, low, 1);
        cannotBePlayed(trial, trial.compose(77), 1, high);
        row(trial, trial.compose(76), high, 13);
        cannotBePlayed(trial, trial.compose(59), 1, high);
        row(trial, trial.compose(60), high, 1);
    }

    private static void eachStringReaches() {
        for (int string = 0; string < 4; string++) {
            Trial trial = trial("9 to 13: on some string, of 0 to 3");
            int[] open = {60, 60, 60, 60};
            open[string] = 0;
            int lute = trial.build(0, 16, open);
            int piece = trial.compose(0, 16);
            row(trial, piece, lute, 13, 13);
            trial.answers(string, "string", piece, 0, lute);
            trial.answers(string, "string", piece, 1, lute);
            trial.goes("tune", lute, string, 1);
            cannotBePlayed(trial, piece, 2, lute);
        }
    }

    private static void positionsOfAnInstrument() {
        for (int frets = 4; frets <= 16; frets++) {
            Trial trial = trial("9 to 13: a position from 1 to the number of frets less 3");
            int lute = trial.build(0, frets, 0, 0, 0, 0);
            int piece = trial.compose(1, frets, 1);
            trial.answers(2 * (frets - 4), "shifts", piece, lute);
            trial.answers(2 * (frets - 4), "shiftsByAll", piece, lute);
            trial.answers(frets - 4, "hardest", piece, lute);
            row(trial, piece, lute, 1, frets - 3, 1);
        }
    }

    /** A fret is reached from the position 3 below it up to its own: two such spans lie so far apart. */
    private static void handReachesThreeFretsOn() {
        for (int frets = 4; frets <= 16; frets++) {
            for (int first = 1; first <= frets; first++) {
                for (int second = 1; second <= frets; second++) {
                    Trial trial = trial("9 to 13: a fret from h to h + 3");
                    int lute = trial.build(0, frets, 0, 0, 0, 0);
                    int piece = trial.compose(first, second);
                    int up = Math.max(1, second - 3) - Math.min(first, frets - 3);
                    int down = Math.max(1, first - 3) - Math.min(second, frets - 3);
                    int due = Math.max(0, Math.max(up, down));
                    trial.answers(due, "shifts", piece, lute);
                    trial.answers(due, "shiftsByAll", piece, lute);
                    trial.answers(due, "hardest", piece, lute);
                }
            }
        }
    }

    private static void openStringInEveryPosition() {
        Trial trial = trial("9 to 13: at the fret 0, in whatever position");
        int lute = trial.plainLute();
        int piece = trial.compose(0, 16, 0);
        row(trial, piece, lute, 13, 13, 13);
        trial.answers(0, "shifts", piece, lute);
        trial.answers(0, "shiftsByAll", piece, lute);
        int alone = trial.compose(0);
        row(trial, alone, lute, 1);
        for (int fret = 1; fret <= 16; fret++) {
            Trial each = trial("9 to 13: at the fret 0, in the position of the other note");
            int other = each.plainLute();
            row(each, each.compose(fret, 0), other, Math.max(1, fret - 3), Math.max(1, fret - 3));
        }
    }

    private static void byAllUpToFourNotes() {
        Trial trial = trial("10: if the piece has more than 4 notes");
        int lute = trial.plainLute();
        int piece = trial.compose();
        int[] due = {-1, 0, 12, 24, 36};
        for (int notes = 0; notes <= 4; notes++) {
            trial.answers(due[notes], "shiftsByAll", piece, lute);
            trial.answers(due[notes], "shifts", piece, lute);
            trial.goes("addNote", piece, notes % 2 == 0 ? 1 : 16);
        }
        trial.refuses(Checks.STATE, "shiftsByAll", piece, lute);
        trial.answers(48, "shifts", piece, lute);
        for (int notes = 5; notes < 16; notes++) {
            trial.goes("addNote", piece, 80);
            trial.refuses(Checks.STATE, "shiftsByAll", piece, lute);
            trial.answers(-1, "shifts", piece, lute);
        }
        trial.answers(0, "shiftsByAll", trial.compose(0, 0, 0, 0), lute);
    }

    private static void byAllFirstException() {
        Trial trial = trial("10: the exception listed first");
        int piece = trial.compose(1, 2, 3, 4, 5);
        trial.refuses(Checks.INDEX, "shiftsByAll", piece, 0);
        int lute = trial.plainLute();
        trial.refuses(Checks.INDEX, "shiftsByAll", piece, 1);
        trial.refuses(Checks.INDEX, "shiftsByAll", piece, -1);
        trial.refuses(Checks.INDEX, "shiftsByAll", 1, lute);
        trial.refuses(Checks.STATE, "shiftsByAll", piece, lute);
    }

    private static void hardestWithoutShifts() {
        Trial trial = trial("11: 0 if it has none");
        int lute = trial.plainLute();
        trial.answers(0, "hardest", trial.compose(16), lute);
        trial.answers(0, "hardest", trial.compose(13, 16, 14), lute);
        trial.answers(1, "hardest", trial.compose(12, 16), lute);
        trial.answers(-1, "hardest", trial.compose(17), lute);
        trial.answers(-1, "hardest", trial.compose(), lute);
    }

    private static void hardestIsAnyOfTheShifts() {
        Trial trial = trial("11: the greatest shift, first, between or last");
        int lute = trial.plainLute();
        trial.answers(12, "hardest", trial.compose(1, 16, 12, 8), lute);
        trial.answers(12, "hardest", trial.compose(5, 1, 16, 12), lute);
        trial.answers(12, "hardest", trial.compose(9, 5, 1, 16), lute);
        trial.answers(12, "hardest", trial.compose(16, 1, 5, 9), lute);
    }

    private static void lowestRowOfEqualSums() {
        Trial trial = trial("12: of several the one whose row is lowest at the first note at which they are unlike");
        int lute = trial.plainLute();
        row(trial, trial.compose(16, 12), lute, 13, 12);
        row(trial, trial.compose(12, 16), lute, 12, 13);
        row(trial, trial.compose(6, 6, 6), lute, 3, 3, 3);
        row(trial, trial.compose(1, 0, 9), lute, 1, 1, 6);
        row(trial, trial.compose(9, 0, 1), lute, 6, 1, 1);
        row(trial, trial.compose(4, 8, 4), lute, 4, 5, 4);
        row(trial, trial.compose(3, 0, 7, 0, 3), lute, 3, 3, 4, 3, 3);
    }

    /** The rows 1 1 13 and 1 7 13 are of one sum; the lower one has the greater shift. */
    private static void lowestRowDecidesTheHardest() {
        Trial trial = trial("11: of the best fingering, and not of an easier one with the same sum");
        int lute = trial.plainLute();
        int piece = trial.compose(1, 0, 16);
        trial.answers(12, "shifts", piece, lute);
        trial.answers(12, "hardest", piece, lute);
        row(trial, piece, lute, 1, 1, 13);
    }

    /** The lowest string on which a pitch lies at all may be out of the hand where it is. */
    private static void lowestStringInThePosition() {
        Trial trial = trial("13: the lowest string on which a note can be played in its position");
        int lute = trial.build(0, 16, 0, 10, 4, 4);
        int alone = trial.compose(16);
        row(trial, alone, lute, 3);
        trial.answers(1, "string", alone, 0, lute);
        int pair = trial.compose(9, 16, 4);
        row(trial, pair, lute, 3, 3, 3);
        trial.answers(2, "string", pair, 0, lute);
        trial.answers(1, "string", pair, 1, lute);
        trial.answers(0, "string", pair, 2, lute);
        int open = trial.compose(4, 20);
        row(trial, open, lute, 7, 7);
        trial.answers(2, "string", open, 0, lute);
        trial.answers(1, "string", open, 1, lute);
        trial.goes("tune", lute, 2, 5);
        row(trial, open, lute, 7, 7);
        trial.answers(3, "string", open, 0, lute);
        trial.goes("tune", lute, 0, 4);
        trial.answers(0, "string", open, 0, lute);
        trial.answers(1, "string", open, 1, lute);
    }

    private static void fullPiece() {
        Trial trial = trial("9 to 13: a piece of 16 notes");
        int lute = trial.plainLute();
        int piece = trial.compose(1, 16, 1, 16, 1, 16, 1, 16, 1, 16, 1, 16, 1, 16, 1, 16);
        trial.answers(180, "shifts", piece, lute);
        trial.answers(12, "hardest", piece, lute);
        row(trial, piece, lute, 1, 13, 1, 13, 1, 13, 1, 13, 1, 13, 1, 13, 1, 13, 1, 13);
        for (String ask : NOTE_ASKS) {
            trial.refusesOutside(Checks.INDEX, 0, 15, note -> Call.of(ask, piece, note, lute));
        }
        trial.refuses(Checks.STATE, "shiftsByAll", piece, lute);
        int last = trial.compose(1, 1, 1, 1, 1, 1, 1, 1, 1, 1, 1, 1, 1, 1, 1, 17);
        trial.answers(-1, "shifts", last, lute);
        trial.answers(-1, "position", last, 0, lute);
    }
}
