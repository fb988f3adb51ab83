/** Promises 18 to 23: addWood, order, ready, fetch, pass, today. */
public final class LuthierTest {
    private static final Checks CHECKS = new Checks("LuthierTest");

    public static void main(String[] args) {
        addWood();
        orderArguments();
        orderStates();
        atWork();
        twentyOrders();
        ready();
        fetch();
        eightInstruments();
        pass();
        CHECKS.end();
    }

    private static void addWood() {
        FretSchool school = new FretSchool();
        CHECKS.refuses("18: wood 4", Checks.ARGUMENT, () -> school.addWood(4, 1));
        CHECKS.refuses("18: wood -1", Checks.ARGUMENT, () -> school.addWood(-1, 1));
        CHECKS.refuses("18: many 0", Checks.ARGUMENT, () -> school.addWood(0, 0));
        CHECKS.refuses("18: many -1", Checks.ARGUMENT, () -> school.addWood(0, -1));
        CHECKS.refuses("18: many 21", Checks.ARGUMENT, () -> school.addWood(0, 21));
        CHECKS.same("18: many 20", school.addWood(0, 20), 20);
        CHECKS.same("18: many 1", school.addWood(0, 1), 21);
        CHECKS.same("18: another wood", school.addWood(3, 5), 5);
        int sum = 21;
        for (int i = 0; i < 400; i++) {
            sum += 20;
            CHECKS.same("18: there is no most", school.addWood(0, 20), sum);
        }
    }

    private static void orderArguments() {
        FretSchool school = new FretSchool();
        for (int wood = 0; wood < 4; wood++) {
            school.addWood(wood, 20);
        }
        CHECKS.refuses("19: pupil 5", Checks.ARGUMENT, () -> school.order(5, 0, 4));
        CHECKS.refuses("19: pupil -1", Checks.ARGUMENT, () -> school.order(-1, 0, 4));
        CHECKS.refuses("19: wood 4", Checks.ARGUMENT, () -> school.order(0, 4, 4));
        CHECKS.refuses("19: wood -1", Checks.ARGUMENT, () -> school.order(0, -1, 4));
        CHECKS.refuses("19: frets 3", Checks.ARGUMENT, () -> school.order(0, 0, 3));
        CHECKS.refuses("19: frets 17", Checks.ARGUMENT, () -> school.order(0, 0, 17));
        CHECKS.same("19: nothing was taken", school.addWood(0, 1), 21);
        CHECKS.same("19: the least", school.order(0, 0, 4), 0);
        CHECKS.same("19: the most", school.order(4, 3, 16), 1);
    }

    private static void orderStates() {
        FretSchool school = new FretSchool();
        CHECKS.refuses("19: no wood", Checks.STATE, () -> school.order(0, 2, 4));
        school.addWood(2, 2);
        CHECKS.refuses("19: 2 of the wood", Checks.STATE, () -> school.order(0, 2, 4));
        school.addWood(1, 20);
        CHECKS.refuses("19: another wood does not do", Checks.STATE, () -> school.order(0, 2, 4));
        school.addWood(2, 1);
        CHECKS.same("19: 3 of the wood", school.order(0, 2, 4), 0);
        CHECKS.same("19: 3 were taken", school.addWood(2, 4), 4);
        CHECKS.same("19: of this wood", school.addWood(1, 1), 21);
        CHECKS.same("19: 1 is left", school.order(0, 2, 4), 1);
        school.pass(8);
        CHECKS.refuses("19: 1 does not do", Checks.STATE, () -> school.order(0, 2, 4));
    }

    private static void atWork() {
        FretSchool school = new FretSchool();
        school.addWood(0, 20);
        school.order(0, 0, 4);
        school.order(0, 0, 5);
        CHECKS.refuses("19: two at work", Checks.STATE, () -> school.order(1, 0, 4));
        school.pass(7);
        CHECKS.refuses("19: the day before", Checks.STATE, () -> school.order(1, 0, 4));
        CHECKS.same("19: nothing was taken", school.addWood(0, 1), 15);
        school.pass(1);
        CHECKS.same("19: the first is ready, though not fetched", school.order(1, 0, 4), 2);
        CHECKS.refuses("19: two at work again", Checks.STATE, () -> school.order(1, 0, 4));
        school.fetch(0, 0, 0, 0, 0);
        CHECKS.refuses("19: fetching frees nothing more", Checks.STATE, () -> school.order(1, 0, 4));
        school.pass(2);
        CHECKS.same("19: the second is ready", school.order(1, 0, 4), 3);
    }

    private static void twentyOrders() {
        FretSchool school = new FretSchool();
        for (int i = 0; i < 4; i++) {
            school.addWood(0, 20);
        }
        for (int i = 0; i < 20; i++) {
            CHECKS.same("19: number", school.order(i % 5, 0, 4 + i % 13), i);
            CHECKS.same("20: ready", school.ready(i), school.today() + 2 * (4 + i % 13));
            school.pass(32);
        }
        CHECKS.refuses("19: there are 20", Checks.STATE, () -> school.order(0, 0, 4));
        CHECKS.refuses("19: there are 20, but the frets first", Checks.ARGUMENT, () -> school.order(0, 0, 3));
        CHECKS.same("19: nothing was taken", school.addWood(0, 1), 21);
        CHECKS.refuses("20: order 20", Checks.INDEX, () -> school.ready(20));
    }

    private static void ready() {
        FretSchool school = new FretSchool();
        CHECKS.refuses("20: no order", Checks.INDEX, () -> school.ready(0));
        CHECKS.refuses("20: order -1", Checks.INDEX, () -> school.ready(-1));
        school.addWood(0, 6);
        school.order(0, 0, 16);
        school.pass(3);
        school.order(0, 0, 5);
        CHECKS.same("20: 2 days for each fret", school.ready(0), 32);
        CHECKS.same("20: from the day of the order on", school.ready(1), 13);
        school.pass(100);
        school.fetch(1, 0, 0, 0, 0);
        CHECKS.same("20: it stays, when time has passed", school.ready(0), 32);
        CHECKS.same("20: it stays, when it was fetched", school.ready(1), 13);
        CHECKS.refuses("20: order 2", Checks.INDEX, () -> school.ready(2));
    }

    private static void fetch() {
        FretSchool school = new FretSchool();
        CHECKS.refuses("21: no order, first", Checks.INDEX, () -> school.fetch(0, 61, 0, 0, 0));
        school.addWood(0, 6);
        school.order(3, 0, 16);
        school.order(2, 0, 4);
        CHECKS.refuses("21: order -1", Checks.INDEX, () -> school.fetch(-1, 0, 0, 0, 0));
        CHECKS.refuses("21: order 2", Checks.INDEX, () -> school.fetch(2, 0, 0, 0, 0));
        for (int string = 0; string < 4; string++) {
            for (int pitch : new int[] {-1, 61}) {
                int[] open = new int[4];
                open[string] = pitch;
                CHECKS.refuses("21: string " + string, Checks.ARGUMENT,
                        () -> school.fetch(0, open[0], open[1], open[2], open[3]));
            }
        }
        school.pass(7);
        CHECKS.refuses("21: the day before", Checks.STATE, () -> school.fetch(1, 0, 20, 40, 60));
        CHECKS.same("21: no instrument yet", school.instruments(), 0);
        school.pass(1);
        CHECKS.same("21: just ready", school.fetch(1, 0, 20, 40, 60), 0);
        CHECKS.same("21: the pupil's", school.owner(0), 2);
        CHECKS.refuses("21: again", Checks.STATE, () -> school.fetch(1, 0, 20, 40, 60));
        CHECKS.refuses("21: not ready", Checks.STATE, () -> school.fetch(0, 0, 20, 40, 60));
        school.pass(50);
        CHECKS.same("21: long ready", school.fetch(0, 60, 40, 20, 0), 1);
        CHECKS.same("21: the other pupil's", school.owner(1), 3);
        for (int string = 0; string < 4; string++) {
            CHECKS.same("21: open " + string, school.tune(0, string, 0), 20 * string);
            CHECKS.same("21: open " + string, school.tune(1, string, 0), 60 - 20 * string);
        }
        int piece = Schools.compose(school, 16);
        CHECKS.same("21: 16 frets", school.position(piece, 0, 1), 13);
        CHECKS.same("21: 4 frets", school.position(piece, 0, 0), -1);
    }

    private static void eightInstruments() {
        FretSchool school = new FretSchool();
        for (int i = 0; i < 8; i++) {
            CHECKS.same("21: number", Schools.build(school, i % 5, 4, i, i, i, i), i);
        }
        school.addWood(0, 3);
        school.order(0, 0, 4);
        school.pass(8);
        CHECKS.refuses("21: there are 8", Checks.STATE, () -> school.fetch(8, 0, 0, 0, 0));
        CHECKS.refuses("21: there are 8, but the pitch first", Checks.ARGUMENT, () -> school.fetch(8, 0, 0, 0, 61));
        CHECKS.same("21: none more", school.instruments(), 8);
        CHECKS.same("21: the last stands", school.tune(7, 3, 0), 7);
    }

    private static void pass() {
        FretSchool school = new FretSchool();
        CHECKS.refuses("22: days 0", Checks.ARGUMENT, () -> school.pass(0));
        CHECKS.refuses("22: days -1", Checks.ARGUMENT, () -> school.pass(-1));
        CHECKS.refuses("22: days 101", Checks.ARGUMENT, () -> school.pass(101));
        CHECKS.refuses("22: days far above", Checks.ARGUMENT, () -> school.pass(Integer.MAX_VALUE));
        CHECKS.same("23: today is 0", school.today(), 0);
        CHECKS.same("22: days 1", school.pass(1), 1);
        CHECKS.same("23: today", school.today(), 1);
        for (int i = 1; i < 50; i++) {
            CHECKS.same("22: days 100", school.pass(100), 100 * i + 1);
        }
        CHECKS.refuses("22: above 5000", Checks.STATE, () -> school.pass(100));
        CHECKS.refuses("22: above 5000, but the days first", Checks.ARGUMENT, () -> school.pass(101));
        CHECKS.same("23: no day has passed", school.today(), 4901);
        CHECKS.same("22: just 5000", school.pass(99), 5000);
        CHECKS.refuses("22: 5001", Checks.STATE, () -> school.pass(1));
        CHECKS.same("23: today at the end", school.today(), 5000);
        school.addWood(0, 3);
        school.order(0, 0, 16);
        CHECKS.same("20: an order may be ready after the last day", school.ready(0), 5032);
    }
}
