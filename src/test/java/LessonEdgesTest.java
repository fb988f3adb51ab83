/** Each boundary that 'Lessons' and the promises 14 to 17 name: learn, level, known, next. */
public final class LessonEdgesTest {
    private static final Checks CHECKS = new Checks("LessonEdgesTest");

    public static void main(String[] args) {
        learnAPieceThatThereIs();
        learnOnAnInstrumentThatThereIs();
        learnPupilRange();
        learnOnThePupilsOwn();
        learnWhatIsNotKnown();
        learnWhatCanBePlayedThere();
        learnUpToTheLevel();
        learnCountsEachShift();
        learnFirstException();
        levelPupilRange();
        levelGrowsByOne();
        levelAtItsHighest();
        knownPupilRange();
        knownFromNoneToAll();
        knownStays();
        nextPupilRange();
        nextOfNone();
        nextUpToTheLevel();
        nextOfSeveralTheLowest();
        nextOnAnyInstrumentOfThePupils();
        nextOnTheEasiestInstrument();
        nextChangesNothing();
        CHECKS.end();
    }

    private static Trial trial(String sentence) {
        return new Trial(CHECKS, sentence);
    }

    /** A piece that has, on a plain lute, just one shift, of the size told (1 to 9). */
    private static int shifting(Trial trial, int shift) {
        return trial.compose(4, 7 + shift);
    }

    private static void learnAPieceThatThereIs() {
        Trial trial = trial("14: if there is no such piece");
        int lute = trial.plainLute();
        trial.refuses(Checks.INDEX, "learn", 0, 0, lute);
        for (int piece = 0; piece < 8; piece++) {
            trial.compose(1);
            trial.refusesOutside(Checks.INDEX, 0, piece, other -> Call.of("learn", 0, other, lute));
        }
        trial.answers(2, "learn", 0, 0, lute);
        trial.answers(2, "learn", 0, 7, lute);
        trial.answers(129, "known", 0);
    }

    private static void learnOnAnInstrumentThatThereIs() {
        Trial trial = trial("14: if there is no such instrument");
        trial.compose(1);
        trial.compose(1);
        trial.refuses(Checks.INDEX, "learn", 0, 0, 0);
        for (int instrument = 0; instrument < 8; instrument++) {
            trial.build(0, 4, 0, 0, 0, 0);
            trial.refusesOutside(Checks.INDEX, 0, instrument, other -> Call.of("learn", 0, 0, other));
        }
        trial.answers(2, "learn", 0, 0, 0);
        trial.answers(2, "learn", 0, 1, 7);
    }

    private static void learnPupilRange() {
        Trial trial = trial("14: pupil: 0 to 4");
        int first = trial.build(0, 4, 0, 0, 0, 0);
        int last = trial.build(4, 4, 0, 0, 0, 0);
        int piece = trial.compose(1);
        trial.refusesOutside(Checks.ARGUMENT, 0, 4, pupil -> Call.of("learn", pupil, piece, first));
        trial.refusesOutside(Checks.ARGUMENT, 0, 4, pupil -> Call.of("learn", pupil, piece, last));
        trial.answers(2, "learn", 0, piece, first);
        trial.answers(2, "learn", 4, piece, last);
        trial.refusesOutside(Checks.ARGUMENT, 0, 4, pupil -> Call.of("learn", pupil, piece, first));
    }

    private static void learnOnThePupilsOwn() {
        for (int owner = 0; owner < 5; owner++) {
            Trial trial = trial("14: if the instrument is not the pupil's");
            int lute = trial.build(owner, 16, 0, 0, 0, 0);
            int piece = shifting(trial, 2);
            for (int pupil = 0; pupil < 5; pupil++) {
                if (pupil != owner) {
                    trial.refuses(Checks.STATE, "learn", pupil, piece, lute);
                }
            }
            trial.answers(3, "learn", owner, piece, lute);
            for (int pupil = 0; pupil < 5; pupil++) {
                trial.answers(pupil == owner ? 3 : 2, "level", pupil);
                trial.answers(pupil == owner ? 1 : 0, "known", pupil);
                trial.refuses(Checks.STATE, "learn", pupil, piece, lute);
            }
        }
    }

    private static void learnWhatIsNotKnown() {
        Trial trial = trial("14: if the pupil knows the piece");
        int lute = trial.plainLute();
        int other = trial.plainLute();
        int piece = shifting(trial, 2);
        trial.answers(3, "learn", 0, piece, lute);
        trial.refuses(Checks.STATE, "learn", 0, piece, lute);
        trial.refuses(Checks.STATE, "learn", 0, piece, other);
        trial.goes("addNote", piece, 12);
        trial.answers(3, "hardest", piece, lute);
        trial.refuses(Checks.STATE, "learn", 0, piece, lute);
        int alike = shifting(trial, 2);
        trial.answers(3, "learn", 0, alike, lute);
    }

    private static void learnWhatCanBePlayedThere() {
        Trial trial = trial("14: if it can be played there");
        int low = trial.plainLute();
        int high = trial.build(0, 16, 60, 60, 60, 60);
        int empty = trial.compose();
        trial.refuses(Checks.STATE, "learn", 0, empty, low);
        int last = trial.compose(16);
        trial.refuses(Checks.STATE, "learn", 0, last, high);
        trial.answers(2, "learn", 0, last, low);
        int past = trial.compose(17);
        trial.refuses(Checks.STATE, "learn", 0, past, low);
        trial.goes("addNote", empty, 0);
        trial.answers(2, "learn", 0, empty, low);
        int lowest = trial.compose(59);
        trial.refuses(Checks.STATE, "learn", 0, lowest, high);
        trial.goes("transpose", lowest, 1);
        trial.answers(2, "learn", 0, lowest, high);
    }

    private static void learnUpToTheLevel() {
        Trial trial = trial("14: no shift is above the level, and if some is just the level");
        int lute = trial.plainLute();
        int three = shifting(trial, 3);
        int one = shifting(trial, 1);
        int two = shifting(trial, 2);
        int none = trial.compose(4);
        int four = shifting(trial, 4);
        trial.refuses(Checks.STATE, "learn", 0, three, lute);
        trial.answers(2, "learn", 0, none, lute);
        trial.answers(2, "learn", 0, one, lute);
        trial.refuses(Checks.STATE, "learn", 0, three, lute);
        trial.answers(3, "learn", 0, two, lute);
        trial.refuses(Checks.STATE, "learn", 0, four, lute);
        trial.answers(4, "learn", 0, three, lute);
        trial.answers(5, "learn", 0, four, lute);
        trial.answers(31, "known", 0);
    }

    private static void learnCountsEachShift() {
        Trial trial = trial("14: each shift counts by itself, and not their sum");
        int lute = trial.plainLute();
        int small = trial.compose(4, 8, 12, 16);
        trial.answers(9, "shifts", small, lute);
        trial.refuses(Checks.STATE, "learn", 0, small, lute);
        int back = trial.compose(4, 9, 4, 9, 4);
        trial.answers(8, "shifts", back, lute);
        trial.answers(3, "learn", 0, back, lute);
        int late = trial.compose(4, 8, 4, 11);
        trial.refuses(Checks.STATE, "learn", 0, late, lute);
        int early = trial.compose(11, 4, 8, 4);
        trial.refuses(Checks.STATE, "learn", 0, early, lute);
        int easier = trial.compose(1, 0, 9);
        trial.answers(5, "hardest", easier, lute);
        trial.refuses(Checks.STATE, "learn", 0, easier, lute);
    }

    private static void learnFirstException() {
        Trial trial = trial("14: the exception listed first");
        trial.refuses(Checks.INDEX, "learn", 5, 0, 0);
        int lute = trial.build(1, 16, 0, 0, 0, 0);
        trial.refuses(Checks.INDEX, "learn", 5, 0, lute);
        trial.refuses(Checks.INDEX, "learn", 0, 0, lute);
        int piece = trial.compose(1);
        int empty = trial.compose();
        trial.refuses(Checks.INDEX, "learn", 5, piece, 1);
        trial.refuses(Checks.INDEX, "learn", -1, 2, lute);
        trial.refuses(Checks.INDEX, "learn", 0, 2, lute);
        trial.refuses(Checks.INDEX, "learn", 0, empty, 1);
        trial.refuses(Checks.ARGUMENT, "learn", 5, empty, lute);
        trial.refuses(Checks.ARGUMENT, "learn", -1, piece, lute);
        trial.answers(2, "learn", 1, piece, lute);
        trial.refuses(Checks.INDEX, "learn", 1, piece, 1);
        trial.refuses(Checks.ARGUMENT, "learn", 5, piece, lute);
        trial.refuses(Checks.STATE, "learn", 1, piece, lute);
        trial.refuses(Checks.STATE, "learn", 4, empty, lute);
    }

    private static void levelPupilRange() {
        Trial trial = trial("15: pupil: 0 to 4");
        trial.refusesOutside(Checks.ARGUMENT, 0, 4, pupil -> Call.of("level", pupil));
        int first = trial.plainLute();
        int last = trial.build(4, 16, 0, 0, 0, 0);
        int piece = shifting(trial, 2);
        trial.answers(3, "learn", 0, piece, first);
        trial.answers(2, "level", 4);
        trial.answers(3, "learn", 4, piece, last);
        trial.answers(3, "level", 0);
        trial.answers(3, "level", 4);
        trial.answers(2, "level", 3);
        trial.refusesOutside(Checks.ARGUMENT, 0, 4, pupil -> Call.of("level", pupil));
    }

    private static void levelGrowsByOne() {
        Trial trial = trial("15: the level grows by 1, however many shifts are just the level");
        int lute = trial.plainLute();
        int often = trial.compose(4, 9, 4, 9, 4, 9, 4, 9);
        trial.answers(2, "hardest", often, lute);
        trial.answers(3, "learn", 0, often, lute);
        trial.answers(3, "level", 0);
        trial.answers(3, "learn", 0, shifting(trial, 2), lute);
        trial.answers(3, "level", 0);
    }

    private static void levelAtItsHighest() {
        Trial trial = trial("15: eight pieces, each just at the level");
        int lute = trial.plainLute();
        for (int shift = 2; shift < 10; shift++) {
            int piece = shifting(trial, shift);
            trial.answers(shift, "level", 0);
            trial.answers(piece, "next", 0);
            trial.answers(shift + 1, "learn", 0, piece, lute);
        }
        trial.answers(10, "level", 0);
        trial.answers(255, "known", 0);
        trial.answers(-1, "next", 0);
        trial.refuses(Checks.STATE, "learn", 0, 7, lute);
        trial.refuses(Checks.INDEX, "learn", 0, 8, lute);
    }

    private static void knownPupilRange() {
        Trial trial = trial("16: pupil: 0 to 4");
        trial.refusesOutside(Checks.ARGUMENT, 0, 4, pupil -> Call.of("known", pupil));
        int lute = trial.build(4, 16, 0, 0, 0, 0);
        int piece = trial.compose(1);
        trial.answers(0, "known", 4);
        trial.goes("learn", 4, piece, lute);
        trial.answers(1, "known", 4);
        trial.answers(0, "known", 0);
        trial.refusesOutside(Checks.ARGUMENT, 0, 4, pupil -> Call.of("known", pupil));
    }

    private static void knownFromNoneToAll() {
        Trial trial = trial("16: bit p stands for the piece p");
        int lute = trial.plainLute();
        for (int piece = 0; piece < 8; piece++) {
            trial.compose(1);
        }
        int due = 0;
        for (int piece : new int[] {7, 0, 4, 3, 1, 6, 5, 2}) {
            trial.answers(due, "known", 0);
            trial.goes("learn", 0, piece, lute);
            due |= 1 << piece;
        }
        trial.answers(255, "known", 0);
        trial.refuses(Checks.STATE, "begin");
        trial.answers(255, "known", 0);
    }

    private static void knownStays() {
        Trial trial = trial("16: a known piece stays known, whatever becomes of it");
        int lute = trial.plainLute();
        int moved = shifting(trial, 2);
        int longer = trial.compose(1);
        int kept = trial.compose(1);
        trial.goes("learn", 0, moved, lute);
        trial.goes("learn", 0, longer, lute);
        trial.goes("learn", 0, kept, lute);
        trial.goes("transpose", moved, 40);
        trial.answers(-1, "shifts", moved, lute);
        trial.goes("addNote", longer, 80);
        trial.answers(-1, "shifts", longer, lute);
        for (int string = 0; string < 4; string++) {
            trial.goes("tune", lute, string, 60);
        }
        trial.answers(-1, "shifts", kept, lute);
        trial.answers(7, "known", 0);
        trial.answers(3, "level", 0);
        trial.answers(-1, "next", 0);
        for (int piece = 0; piece < 3; piece++) {
            trial.refuses(Checks.STATE, "learn", 0, piece, lute);
        }
    }

    private static void nextPupilRange() {
        Trial trial = trial("17: pupil: 0 to 4");
        trial.refusesOutside(Checks.ARGUMENT, 0, 4, pupil -> Call.of("next", pupil));
        trial.plainLute();
        trial.build(4, 16, 1, 1, 1, 1);
        trial.compose(0);
        trial.compose(1);
        trial.answers(0, "next", 0);
        trial.answers(1, "next", 4);
        trial.refusesOutside(Checks.ARGUMENT, 0, 4, pupil -> Call.of("next", pupil));
    }

    private static void nextOfNone() {
        Trial trial = trial("17: NONE if there is none");
        trial.answers(-1, "next", 0);
        int lute = trial.plainLute();
        trial.answers(-1, "next", 0);
        int empty = trial.compose();
        trial.answers(-1, "next", 0);
        trial.compose(17);
        trial.answers(-1, "next", 0);
        trial.goes("addNote", empty, 16);
        trial.answers(empty, "next", 0);
        trial.answers(-1, "next", 1);
        trial.goes("learn", 0, empty, lute);
        trial.answers(-1, "next", 0);
    }

    private static void nextUpToTheLevel() {
        Trial trial = trial("17: the piece that a pupil can learn");
        int lute = trial.plainLute();
        int three = shifting(trial, 3);
        trial.answers(-1, "next", 0);
        int two = shifting(trial, 2);
        trial.answers(two, "next", 0);
        trial.goes("learn", 0, two, lute);
        trial.answers(three, "next", 0);
        trial.goes("learn", 0, three, lute);
        trial.answers(-1, "next", 0);
    }

    private static void nextOfSeveralTheLowest() {
        Trial trial = trial("17: the least greatest shift, of several the lowest");
        int lute = trial.plainLute();
        int[] shifts = {2, 1, 2, 1};
        for (int shift : shifts) {
            shifting(trial, shift);
        }
        trial.compose(16);
        trial.compose(4);
        for (int piece : new int[] {4, 5, 1, 3, 0, 2}) {
            trial.answers(piece, "next", 0);
            trial.goes("learn", 0, piece, lute);
        }
        trial.answers(-1, "next", 0);
    }

    private static void nextOnAnyInstrumentOfThePupils() {
        Trial trial = trial("17: on any instrument of the pupil's on which it can be learned");
        int two = shifting(trial, 2);
        int nine = shifting(trial, 9);
        trial.plainLute();
        trial.answers(two, "next", 0);
        int strange = trial.build(1, 16, 0, 12, 0, 0);
        trial.answers(0, "hardest", nine, strange);
        trial.answers(two, "next", 0);
        trial.answers(nine, "next", 1);
        int last = 0;
        for (int i = 2; i < 8; i++) {
            last = trial.plainLute();
        }
        trial.answers(two, "next", 0);
        trial.goes("tune", last, 1, 12);
        trial.answers(nine, "next", 0);
        trial.goes("learn", 0, nine, last);
        trial.answers(two, "next", 0);
    }

    /** The piece counts by its easiest instrument, whether that is the first of them or the last. */
    private static void nextOnTheEasiestInstrument() {
        Trial trial = trial("17: the least greatest shift on any instrument");
        int one = shifting(trial, 1);
        int two = shifting(trial, 2);
        int first = trial.plainLute();
        int last = trial.plainLute();
        for (int easy : new int[] {first, last}) {
            trial.answers(one, "next", 0);
            trial.goes("tune", easy, 1, 9);
            trial.answers(0, "hardest", two, easy);
            trial.answers(two, "next", 0);
            trial.goes("tune", easy, 1, 0);
        }
    }

    private static void nextChangesNothing() {
        Trial trial = trial("17: it is an answer only");
        trial.plainLute();
        int piece = shifting(trial, 2);
        trial.answers(piece, "next", 0);
        trial.answers(piece, "next", 0);
        trial.answers(2, "level", 0);
        trial.answers(0, "known", 0);
    }
}
