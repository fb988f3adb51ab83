/** Each boundary that the promises 18 to 23 name: addWood, order, ready, fetch, pass, today. */
public final class LuthierEdgesTest {
    private static final Checks CHECKS = new Checks("LuthierEdgesTest");

    public static void main(String[] args) {
        addWoodRanges();
        addWoodHasNoMost();
        orderRanges();
        orderTakesThreeOfTheWood();
        orderTwoAtWork();
        orderReadyOrFetchedIsNotAtWork();
        orderAtMostTwenty();
        orderFirstException();
        readyOfAnOrderThatThereIs();
        readyTwoDaysForEachFret();
        readyAfterTheLastDay();
        fetchAnOrderThatThereIs();
        fetchPitchRanges();
        fetchWhenReady();
        fetchOnce();
        fetchAtMostEightInstruments();
        fetchFirstException();
        passRange();
        passUpToTheLastDay();
        passFirstException();
        todayFromTheFirstToTheLastDay();
        theLastOfTheCalls();
        CHECKS.end();
    }

    private static Trial trial(String sentence) {
        return new Trial(CHECKS, sentence);
    }

    /** A trial with so much of the wood 0 that no order of 20 lacks it. */
    private static Trial wooded(String sentence) {
        Trial trial = trial(sentence);
        for (int i = 0; i < 4; i++) {
            trial.goes("addWood", 0, 20);
        }
        return trial;
    }

    private static void addWoodRanges() {
        Trial trial = trial("18: wood: 0 to 3, many: 1 to 20");
        trial.refusesOutside(Checks.ARGUMENT, 0, 3, wood -> Call.of("addWood", wood, 1));
        trial.refusesOutside(Checks.ARGUMENT, 0, 3, wood -> Call.of("addWood", wood, 21));
        for (int wood = 0; wood < 4; wood++) {
            final int added = wood;
            trial.refusesOutside(Checks.ARGUMENT, 1, 20, many -> Call.of("addWood", added, many));
            trial.answers(1, "addWood", wood, 1);
            trial.answers(21, "addWood", wood, 20);
            trial.refusesOutside(Checks.ARGUMENT, 1, 20, many -> Call.of("addWood", added, many));
        }
        trial.refusesOutside(Checks.ARGUMENT, 0, 3, wood -> Call.of("addWood", wood, 20));
        trial.answers(22, "addWood", 0, 1);
    }

    private static void addWoodHasNoMost() {
        Trial trial = trial("18: how much of it there is then, as much as 512 calls can add");
        for (int call = 1; call <= 512; call++) {
            trial.answers(20 * call, "addWood", 3, 20);
        }
    }

    private static void orderRanges() {
        Trial trial = trial("19: pupil: 0 to 4, wood: 0 to 3, frets: 4 to 16");
        for (int wood = 0; wood < 4; wood++) {
            trial.goes("addWood", wood, 20);
        }
        trial.refusesOutside(Checks.ARGUMENT, 0, 4, pupil -> Call.of("order", pupil, 0, 4));
        trial.refusesOutside(Checks.ARGUMENT, 0, 3, wood -> Call.of("order", 0, wood, 4));
        trial.refusesOutside(Checks.ARGUMENT, 4, 16, frets -> Call.of("order", 0, 0, frets));
        trial.answers(0, "order", 0, 0, 4);
        trial.answers(1, "order", 4, 3, 16);
        trial.answers(32, "pass", 32);
        trial.answers(0, "fetch", 0, 0, 0, 0, 0);
        trial.answers(1, "fetch", 1, 0, 0, 0, 0);
        trial.answers(0, "owner", 0);
        trial.answers(4, "owner", 1);
        trial.refusesOutside(Checks.ARGUMENT, 0, 4, pupil -> Call.of("order", pupil, 3, 16));
        trial.refusesOutside(Checks.ARGUMENT, 0, 3, wood -> Call.of("order", 4, wood, 16));
        trial.refusesOutside(Checks.ARGUMENT, 4, 16, frets -> Call.of("order", 4, 3, frets));
    }

    private static void orderTakesThreeOfTheWood() {
        for (int wood = 0; wood < 4; wood++) {
            Trial trial = trial("19: if there is too little of the wood");
            for (int other = 0; other < 4; other++) {
                trial.goes("addWood", other, other == wood ? 2 : 20);
            }
            trial.refuses(Checks.STATE, "order", 0, wood, 4);
            trial.answers(3, "addWood", wood, 1);
            trial.answers(0, "order", 0, wood, 4);
            trial.refuses(Checks.STATE, "order", 0, wood, 4);
            trial.answers(1, "addWood", wood, 1);
            trial.answers(2, "addWood", wood, 1);
            trial.refuses(Checks.STATE, "order", 0, wood, 4);
            trial.answers(4, "addWood", wood, 2);
            trial.answers(1, "order", 0, wood, 4);
            trial.answers(2, "addWood", wood, 1);
            trial.answers(21, "addWood", (wood + 1) % 4, 1);
        }
    }

    private static void orderTwoAtWork() {
        Trial trial = wooded("19: if two orders are at work");
        trial.answers(0, "order", 0, 0, 5);
        trial.answers(1, "order", 1, 0, 4);
        trial.refuses(Checks.STATE, "order", 2, 0, 4);
        trial.goes("pass", 7);
        trial.refuses(Checks.STATE, "order", 2, 0, 4);
        trial.goes("pass", 1);
        trial.answers(2, "order", 2, 0, 16);
        trial.refuses(Checks.STATE, "order", 2, 0, 4);
        trial.goes("pass", 1);
        trial.refuses(Checks.STATE, "order", 2, 0, 4);
        trial.goes("pass", 1);
        trial.answers(3, "order", 2, 0, 16);
        trial.refuses(Checks.STATE, "order", 2, 0, 4);
    }

    private static void orderReadyOrFetchedIsNotAtWork() {
        Trial trial = wooded("19: at work is one that was neither fetched nor is ready");
        trial.goes("order", 0, 0, 4);
        trial.goes("order", 0, 0, 4);
        trial.goes("pass", 8);
        trial.goes("fetch", 0, 0, 0, 0, 0);
        trial.answers(2, "order", 0, 0, 4);
        trial.answers(3, "order", 0, 0, 4);
        trial.refuses(Checks.STATE, "order", 0, 0, 4);
        trial.goes("fetch", 1, 0, 0, 0, 0);
        trial.refuses(Checks.STATE, "order", 0, 0, 4);
        trial.goes("pass", 8);
        trial.answers(4, "order", 0, 0, 4);
        trial.answers(5, "order", 0, 0, 4);
        trial.refuses(Checks.STATE, "order", 0, 0, 4);
    }

    private static void orderAtMostTwenty() {
        Trial trial = wooded("19: there are at most 20 orders");
        for (int order = 0; order < 20; order++) {
            trial.answers(order, "order", order % 5, 0, 4);
            trial.goes("pass", 8);
        }
        trial.refuses(Checks.STATE, "order", 0, 0, 4);
        trial.goes("fetch", 19, 0, 0, 0, 0);
        trial.refuses(Checks.STATE, "order", 0, 0, 4);
        trial.answers(21, "addWood", 0, 1);
    }

    private static void orderFirstException() {
        Trial trial = trial("19: the exception listed first");
        trial.refuses(Checks.ARGUMENT, "order", 5, 0, 4);
        trial.refuses(Checks.ARGUMENT, "order", 0, 4, 4);
        trial.refuses(Checks.ARGUMENT, "order", 0, 0, 17);
        for (int i = 0; i < 4; i++) {
            trial.goes("addWood", 0, 20);
        }
        trial.goes("order", 0, 0, 4);
        trial.goes("order", 0, 0, 4);
        trial.refuses(Checks.ARGUMENT, "order", -1, 0, 4);
        trial.refuses(Checks.ARGUMENT, "order", 0, -1, 4);
        trial.refuses(Checks.ARGUMENT, "order", 0, 0, 3);
        trial.refuses(Checks.STATE, "order", 0, 0, 4);
        for (int order = 2; order < 20; order++) {
            trial.goes("pass", 8);
            trial.goes("order", 0, 0, 4);
        }
        trial.goes("pass", 8);
        trial.refuses(Checks.ARGUMENT, "order", 5, 4, 3);
        trial.refuses(Checks.ARGUMENT, "order", 0, 0, 17);
        trial.refuses(Checks.STATE, "order", 0, 0, 16);
    }

    private static void readyOfAnOrderThatThereIs() {
        Trial trial = wooded("20: if there is no such order");
        trial.refuses(Checks.INDEX, "ready", 0);
        for (int order = 0; order < 20; order++) {
            trial.goes("order", 0, 0, 4);
            trial.answers(8 * order + 8, "ready", order);
            trial.refusesOutside(Checks.INDEX, 0, order, other -> Call.of("ready", other));
            trial.goes("pass", 8);
        }
        trial.answers(8, "ready", 0);
        trial.answers(160, "ready", 19);
    }

    private static void readyTwoDaysForEachFret() {
        for (int frets = 4; frets <= 16; frets++) {
            Trial trial = wooded("20: 2 days for each fret later");
            trial.goes("order", 0, 0, frets);
            trial.answers(2 * frets, "ready", 0);
            trial.goes("pass", 2 * frets);
            trial.answers(2 * frets, "ready", 0);
            trial.goes("fetch", 0, 0, 0, 0, 0);
            trial.answers(2 * frets, "ready", 0);
            trial.goes("order", 0, 0, frets);
            trial.answers(4 * frets, "ready", 1);
        }
    }

    private static void readyAfterTheLastDay() {
        Trial trial = wooded("20: the day is told, though it never comes");
        trial.goes("order", 0, 0, 4);
        trial.passTo(4968);
        trial.goes("order", 0, 0, 16);
        trial.answers(5000, "ready", 1);
        trial.goes("pass", 32);
        trial.answers(0, "fetch", 1, 0, 0, 0, 0);
        trial.goes("order", 0, 0, 4);
        trial.goes("order", 0, 0, 16);
        trial.answers(5008, "ready", 2);
        trial.answers(5032, "ready", 3);
        trial.refuses(Checks.STATE, "fetch", 2, 0, 0, 0, 0);
        trial.refuses(Checks.STATE, "order", 0, 0, 4);
        trial.refuses(Checks.STATE, "pass", 1);
    }

    private static void fetchAnOrderThatThereIs() {
        Trial trial = wooded("21: if there is no such order");
        trial.refuses(Checks.INDEX, "fetch", 0, 0, 0, 0, 0);
        for (int order = 0; order < 20; order++) {
            trial.goes("order", 0, 0, 4);
            trial.goes("pass", 8);
            trial.refusesOutside(Checks.INDEX, 0, order, other -> Call.of("fetch", other, 0, 0, 0, 0));
        }
        trial.answers(0, "fetch", 19, 0, 0, 0, 0);
        trial.answers(1, "fetch", 0, 0, 0, 0, 0);
    }

    private static void fetchPitchRanges() {
        Trial trial = wooded("21: first, second, third, fourth: 0 to 60");
        trial.goes("order", 0, 0, 4);
        trial.goes("order", 0, 0, 4);
        trial.goes("pass", 8);
        fetchRefusesOutside(trial, 0);
        trial.answers(0, "fetch", 0, 0, 60, 0, 60);
        fetchRefusesOutside(trial, 1);
        trial.answers(1, "fetch", 1, 60, 0, 60, 0);
        for (int string = 0; string < 4; string++) {
            trial.answers(string % 2 == 0 ? 0 : 60, "tune", 0, string, 30);
            trial.answers(string % 2 == 0 ? 60 : 0, "tune", 1, string, 30);
        }
    }

    private static void fetchRefusesOutside(Trial trial, int order) {
        trial.refusesOutside(Checks.ARGUMENT, 0, 60, pitch -> Call.of("fetch", order, pitch, 0, 0, 0));
        trial.refusesOutside(Checks.ARGUMENT, 0, 60, pitch -> Call.of("fetch", order, 0, pitch, 0, 0));
        trial.refusesOutside(Checks.ARGUMENT, 0, 60, pitch -> Call.of("fetch", order, 0, 0, pitch, 0));
        trial.refusesOutside(Checks.ARGUMENT, 0, 60, pitch -> Call.of("fetch", order, 0, 0, 0, pitch));
    }

    private static void fetchWhenReady() {
        for (int frets = 4; frets <= 16; frets += 6) {
            Trial trial = wooded("21: if it is not ready");
            trial.goes("pass", 5);
            trial.goes("order", 3, 0, frets);
            trial.refuses(Checks.STATE, "fetch", 0, 0, 0, 0, 0);
            trial.goes("pass", 2 * frets - 1);
            trial.refuses(Checks.STATE, "fetch", 0, 0, 0, 0, 0);
            trial.goes("pass", 1);
            trial.answers(0, "fetch", 0, 0, 0, 0, 0);
            trial.answers(3, "owner", 0);
            trial.goes("order", 2, 0, frets);
            trial.goes("pass", 100);
            trial.answers(1, "fetch", 1, 0, 0, 0, 0);
        }
    }

    private static void fetchOnce() {
        Trial trial = wooded("21: if it was fetched");
        trial.goes("order", 0, 0, 4);
        trial.goes("order", 1, 0, 4);
        trial.goes("pass", 8);
        trial.answers(0, "fetch", 1, 1, 2, 3, 4);
        trial.refuses(Checks.STATE, "fetch", 1, 1, 2, 3, 4);
        trial.answers(1, "fetch", 0, 1, 2, 3, 4);
        trial.refuses(Checks.STATE, "fetch", 0, 5, 6, 7, 8);
        trial.goes("pass", 100);
        trial.refuses(Checks.STATE, "fetch", 1, 5, 6, 7, 8);
    }

    private static void fetchAtMostEightInstruments() {
        Trial trial = wooded("21: if there are 8 instruments");
        for (int order = 0; order < 9; order++) {
            trial.goes("order", order % 5, 0, 4);
            trial.goes("pass", 8);
        }
        for (int order = 8; order > 0; order--) {
            trial.answers(8 - order, "fetch", order, order, 0, 0, 0);
        }
        trial.refuses(Checks.STATE, "fetch", 0, 0, 0, 0, 0);
        trial.goes("pass", 100);
        trial.refuses(Checks.STATE, "fetch", 0, 0, 0, 0, 0);
        trial.refuses(Checks.STATE, "fetch", 8, 0, 0, 0, 0);
        trial.answers(8, "tune", 0, 0, 0);
        trial.answers(1, "tune", 7, 0, 0);
    }

    private static void fetchFirstException() {
        Trial trial = wooded("21: the exception listed first");
        trial.refuses(Checks.INDEX, "fetch", 0, 61, 0, 0, 0);
        trial.goes("order", 0, 0, 4);
        trial.refuses(Checks.INDEX, "fetch", 1, 0, 61, 0, 0);
        trial.refuses(Checks.INDEX, "fetch", -1, 0, 0, -1, 0);
        trial.refuses(Checks.ARGUMENT, "fetch", 0, 0, 0, 0, 61);
        trial.refuses(Checks.STATE, "fetch", 0, 0, 0, 0, 60);
        trial.goes("pass", 8);
        trial.goes("fetch", 0, 0, 0, 0, 0);
        trial.refuses(Checks.ARGUMENT, "fetch", 0, -1, 0, 0, 0);
        trial.refuses(Checks.STATE, "fetch", 0, 0, 0, 0, 0);
        for (int instrument = 1; instrument < 8; instrument++) {
            trial.build(0, 4, 0, 0, 0, 0);
        }
        trial.goes("order", 0, 0, 4);
        trial.goes("pass", 8);
        trial.refuses(Checks.INDEX, "fetch", 9, 0, 0, 0, 0);
        trial.refuses(Checks.INDEX, "fetch", 9, 0, 0, 61, 0);
        trial.refuses(Checks.ARGUMENT, "fetch", 8, 0, 0, 61, 0);
        trial.refuses(Checks.STATE, "fetch", 8, 0, 0, 60, 0);
    }

    private static void passRange() {
        Trial trial = trial("22: days: 1 to 100");
        trial.refusesOutside(Checks.ARGUMENT, 1, 100, days -> Call.of("pass", days));
        trial.answers(1, "pass", 1);
        trial.answers(101, "pass", 100);
        trial.refusesOutside(Checks.ARGUMENT, 1, 100, days -> Call.of("pass", days));
        trial.answers(101, "today");
    }

    private static void passUpToTheLastDay() {
        Trial trial = trial("22: if today would be above 5000");
        trial.passTo(4901);
        trial.refuses(Checks.STATE, "pass", 100);
        trial.answers(4999, "pass", 98);
        trial.refuses(Checks.STATE, "pass", 2);
        trial.refuses(Checks.STATE, "pass", 100);
        trial.answers(5000, "pass", 1);
        trial.refuses(Checks.STATE, "pass", 1);
        trial.refuses(Checks.STATE, "pass", 100);
        Trial whole = trial("22: today may be just 5000");
        whole.passTo(4900);
        whole.answers(5000, "pass", 100);
        whole.refuses(Checks.STATE, "pass", 1);
    }

    private static void passFirstException() {
        Trial trial = trial("22: the exception listed first");
        trial.passTo(5000);
        trial.refusesOutside(Checks.ARGUMENT, 1, 100, days -> Call.of("pass", days));
        trial.refuses(Checks.STATE, "pass", 1);
    }

    private static void todayFromTheFirstToTheLastDay() {
        Trial trial = trial("23: returns today");
        trial.answers(0, "today");
        for (int day = 100; day <= 5000; day += 100) {
            trial.answers(day, "pass", 100);
            trial.answers(day, "today");
        }
        trial.refuses(Checks.STATE, "pass", 1);
        trial.answers(5000, "today");
    }

    private static void theLastOfTheCalls() {
        Trial trial = wooded("an object is used for at most 512 calls: the last is answered like any");
        for (int call = 4; call < 511; call++) {
            trial.answers(0, "instruments");
        }
        trial.answers(0, "order", 0, 0, 4);
    }
}
