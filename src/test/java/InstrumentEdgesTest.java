/** Each boundary that the promises 6 to 8 name: tune, owner, instruments. */
public final class InstrumentEdgesTest {
    private static final Checks CHECKS = new Checks("InstrumentEdgesTest");

    public static void main(String[] args) {
        tuneAnInstrumentThatThereIs();
        tuneStringRange();
        tunePitchRange();
        tuneReturnsThePitchBefore();
        tuneFirstException();
        ownerOfAnInstrumentThatThereIs();
        ownerIsAnyPupil();
        instrumentsFromNoneToEight();
        CHECKS.end();
    }

    private static Trial trial(String sentence) {
        return new Trial(CHECKS, sentence);
    }

    private static void tuneAnInstrumentThatThereIs() {
        Trial trial = trial("6: if there is no such instrument");
        trial.refuses(Checks.INDEX, "tune", 0, 0, 0);
        trial.goes("addWood", 0, 3);
        trial.goes("order", 0, 0, 4);
        trial.goes("pass", 8);
        trial.refuses(Checks.INDEX, "tune", 0, 0, 0);
        trial.goes("fetch", 0, 9, 9, 9, 9);
        trial.answers(9, "tune", 0, 0, 0);
        for (int instrument = 1; instrument < 8; instrument++) {
            trial.build(0, 4, 9, 9, 9, 9);
            trial.refusesOutside(Checks.INDEX, 0, instrument, other -> Call.of("tune", other, 0, 0));
        }
        trial.answers(9, "tune", 7, 0, 0);
        trial.answers(0, "tune", 0, 0, 1);
    }

    private static void tuneStringRange() {
        Trial trial = trial("6: string: 0 to 3");
        trial.build(0, 4, 1, 2, 3, 4);
        trial.refusesOutside(Checks.ARGUMENT, 0, 3, string -> Call.of("tune", 0, string, 0));
        for (int string = 0; string < 4; string++) {
            trial.answers(string + 1, "tune", 0, string, 60 - string);
        }
        trial.refusesOutside(Checks.ARGUMENT, 0, 3, string -> Call.of("tune", 0, string, 0));
        for (int string = 0; string < 4; string++) {
            trial.answers(60 - string, "tune", 0, string, 0);
        }
    }

    private static void tunePitchRange() {
        Trial trial = trial("6: pitch: 0 to 60");
        trial.build(0, 4, 30, 30, 30, 30);
        for (int string = 0; string < 4; string++) {
            final int tuned = string;
            trial.refusesOutside(Checks.ARGUMENT, 0, 60, pitch -> Call.of("tune", 0, tuned, pitch));
            trial.answers(30, "tune", 0, string, 0);
            trial.answers(0, "tune", 0, string, 60);
            trial.refusesOutside(Checks.ARGUMENT, 0, 60, pitch -> Call.of("tune", 0, tuned, pitch));
            trial.answers(60, "tune", 0, string, 60);
            trial.answers(60, "tune", 0, string, 30);
        }
    }

    private static void tuneReturnsThePitchBefore() {
        Trial trial = trial("6: returns the pitch before");
        trial.build(0, 4, 0, 60, 0, 60);
        trial.build(1, 4, 60, 0, 60, 0);
        for (int string = 0; string < 4; string++) {
            int first = string % 2 == 0 ? 0 : 60;
            trial.answers(first, "tune", 0, string, first);
            trial.answers(first, "tune", 0, string, 60 - first);
            trial.answers(60 - first, "tune", 1, string, 5);
            trial.answers(60 - first, "tune", 0, string, 5);
        }
    }

    private static void tuneFirstException() {
        Trial trial = trial("6: the exception listed first");
        trial.refuses(Checks.INDEX, "tune", 0, 4, 61);
        trial.build(0, 4, 0, 0, 0, 0);
        trial.refuses(Checks.INDEX, "tune", 1, 4, 0);
        trial.refuses(Checks.INDEX, "tune", 1, 0, 61);
        trial.refuses(Checks.INDEX, "tune", -1, -1, -1);
        trial.refuses(Checks.ARGUMENT, "tune", 0, 4, 61);
        trial.refuses(Checks.ARGUMENT, "tune", 0, -1, 60);
        trial.refuses(Checks.ARGUMENT, "tune", 0, 3, -1);
    }

    private static void ownerOfAnInstrumentThatThereIs() {
        Trial trial = trial("7: if there is no such instrument");
        trial.refuses(Checks.INDEX, "owner", 0);
        trial.goes("addWood", 0, 3);
        trial.goes("order", 4, 0, 4);
        trial.refuses(Checks.INDEX, "owner", 0);
        trial.goes("pass", 8);
        trial.refuses(Checks.INDEX, "owner", 0);
        trial.goes("fetch", 0, 0, 0, 0, 0);
        trial.answers(4, "owner", 0);
        for (int instrument = 1; instrument < 8; instrument++) {
            trial.build(0, 4, 0, 0, 0, 0);
            trial.refusesOutside(Checks.INDEX, 0, instrument, other -> Call.of("owner", other));
        }
        trial.answers(4, "owner", 0);
        trial.answers(0, "owner", 7);
    }

    private static void ownerIsAnyPupil() {
        Trial trial = trial("7: the pupil to whom it belongs, of the pupils 0 to 4");
        for (int pupil = 4; pupil >= 0; pupil--) {
            trial.build(pupil, 4, 0, 0, 0, 0);
        }
        for (int instrument = 0; instrument < 5; instrument++) {
            trial.answers(4 - instrument, "owner", instrument);
        }
    }

    private static void instrumentsFromNoneToEight() {
        Trial trial = trial("8: the number of instruments");
        for (int instrument = 0; instrument < 8; instrument++) {
            trial.answers(instrument, "instruments");
            trial.goes("addWood", 0, 3);
            trial.answers(instrument, "order", 0, 0, 4);
            trial.refuses(Checks.STATE, "fetch", instrument, 0, 0, 0, 0);
            trial.answers(instrument, "instruments");
            trial.goes("pass", 8);
            trial.answers(instrument, "instruments");
            trial.answers(instrument, "fetch", instrument, 0, 0, 0, 0);
        }
        trial.answers(8, "instruments");
        trial.goes("addWood", 0, 3);
        trial.goes("order", 0, 0, 4);
        trial.goes("pass", 8);
        trial.refuses(Checks.STATE, "fetch", 8, 0, 0, 0, 0);
        trial.answers(8, "instruments");
    }
}
