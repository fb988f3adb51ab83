import java.util.ArrayList;
import java.util.List;
import java.util.function.Consumer;

/** Everything that can be asked of a school: what the calls that only answer tell, and what the others answer next. */
final class Everything {
    private static final List<Consumer<Replay>> PARTS = List.of(
            Everything::numbers, Everything::pieces, Everything::positions, Everything::stock, Everything::openStrings,
            Everything::atWork, Everything::furtherOrders, Everything::fetched, Everything::furtherPieces,
            Everything::furtherNotes, Everything::lessons, Everything::days);

    private Everything() {
    }

    /** Each part starts from the same state, as some parts change it. */
    static List<String> of(List<Call> history) {
        List<String> told = new ArrayList<>();
        for (Consumer<Replay> part : PARTS) {
            Replay replay = new Replay(history);
            part.accept(replay);
            told.addAll(replay.told());
        }
        return told;
    }

    private static boolean answers(String answer) {
        return !Call.isRefusal(answer);
    }

    private static void numbers(Replay replay) {
        replay.ask("today");
        replay.ask("instruments");
        for (int i = 0; answers(replay.ask("owner", i)); i++) {
            continue;
        }
        for (int i = 0; answers(replay.ask("ready", i)); i++) {
            continue;
        }
        for (int pupil = 0; pupil < 5; pupil++) {
            replay.ask("level", pupil);
            replay.ask("known", pupil);
            replay.ask("next", pupil);
        }
    }

    private static void pieces(Replay replay) {
        for (int piece = 0; piece < 8; piece++) {
            for (int note = 0; answers(replay.ask("pitch", piece, note)); note++) {
                continue;
            }
        }
    }

    private static void positions(Replay replay) {
        for (int instrument = 0; answers(replay.ask("owner", instrument)); instrument++) {
            for (int piece = 0; answers(replay.ask("shifts", piece, instrument)); piece++) {
                replay.ask("shiftsByAll", piece, instrument);
                replay.ask("hardest", piece, instrument);
                for (int note = 0; answers(replay.ask("position", piece, note, instrument)); note++) {
                    replay.ask("string", piece, note, instrument);
                }
            }
        }
    }

    private static void stock(Replay replay) {
        for (int wood = 0; wood < 4; wood++) {
            replay.change("addWood", wood, 1);
        }
    }

    private static void openStrings(Replay replay) {
        for (int instrument = 0; answers(replay.change("tune", instrument, 0, 0)); instrument++) {
            for (int string = 1; string < 4; string++) {
                replay.change("tune", instrument, string, 0);
            }
        }
    }

    private static void atWork(Replay replay) {
        replay.change("addWood", 0, 9);
        for (int i = 0; i < 3; i++) {
            replay.change("order", 0, 0, 4);
        }
        replay.change("instruments");
    }

    private static void furtherOrders(Replay replay) {
        for (int i = 0; i < 3; i++) {
            replay.change("addWood", 0, 20);
        }
        replay.change("pass", 32);
        while (answers(replay.change("order", 0, 0, 4)) && answers(replay.change("pass", 8))) {
            continue;
        }
    }

    /** An order that is refused now may be fetched later. */
    private static void fetched(Replay replay) {
        for (int order = 0; answers(replay.change("ready", order)); order++) {
            replay.change("fetch", order, 10, 20, 30, 40);
        }
        replay.change("pass", 32);
        for (int order = 0; answers(replay.change("ready", order)); order++) {
            replay.change("fetch", order, 10, 20, 30, 40);
        }
        for (int instrument = 0; answers(replay.change("owner", instrument)); instrument++) {
            replay.change("tune", instrument, 0, 0);
        }
    }

    private static void furtherPieces(Replay replay) {
        while (answers(replay.change("begin"))) {
            continue;
        }
    }

    private static void furtherNotes(Replay replay) {
        for (int piece = 0; piece < 8; piece++) {
            while (answers(replay.change("addNote", piece, 40))) {
                continue;
            }
            replay.change("transpose", piece, 1);
            replay.change("pitch", piece, 0);
        }
    }

    private static void lessons(Replay replay) {
        for (int instrument = 0; instrument < 8; instrument++) {
            String owner = replay.change("owner", instrument);
            for (int piece = 0; piece < 8 && answers(owner); piece++) {
                replay.change("learn", Integer.parseInt(owner), piece, instrument);
            }
        }
        for (int pupil = 0; pupil < 5; pupil++) {
            replay.change("level", pupil);
        }
    }

    private static void days(Replay replay) {
        while (answers(replay.change("pass", 100))) {
            continue;
        }
        while (answers(replay.change("pass", 1))) {
            continue;
        }
    }
}
