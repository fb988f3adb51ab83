/** Promises 6 to 8: tune, owner, instruments. */
public final class InstrumentsTest {
    private static final Checks CHECKS = new Checks("InstrumentsTest");

    public static void main(String[] args) {
        tune();
        ownerAndInstruments();
        CHECKS.end();
    }

    private static void tune() {
        FretSchool school = new FretSchool();
        CHECKS.refuses("6: no instrument, first", Checks.INDEX, () -> school.tune(0, 4, 61));
        int lute = Schools.build(school, 1, 4, 10, 20, 30, 40);
        int oud = Schools.build(school, 1, 4, 10, 20, 30, 40);
        CHECKS.refuses("6: instrument 2", Checks.INDEX, () -> school.tune(2, 0, 0));
        CHECKS.refuses("6: instrument -1", Checks.INDEX, () -> school.tune(-1, 0, 0));
        CHECKS.refuses("6: string 4", Checks.ARGUMENT, () -> school.tune(lute, 4, 0));
        CHECKS.refuses("6: string -1", Checks.ARGUMENT, () -> school.tune(lute, -1, 0));
        CHECKS.refuses("6: pitch 61", Checks.ARGUMENT, () -> school.tune(lute, 0, 61));
        CHECKS.refuses("6: pitch -1", Checks.ARGUMENT, () -> school.tune(lute, 0, -1));
        int[] open = {10, 20, 30, 40};
        for (int string = 0; string < 4; string++) {
            CHECKS.same("6: before", school.tune(lute, string, 60 - 20 * string), open[string]);
            CHECKS.same("6: then", school.tune(lute, string, string), 60 - 20 * string);
            CHECKS.same("6: the other stays", school.tune(oud, string, 0), open[string]);
        }
        int piece = Schools.compose(school, 45);
        CHECKS.same("6: the pitch 45 is out of reach", school.shifts(piece, lute), -1);
        school.tune(lute, 3, 41);
        CHECKS.same("6: the string 3 reaches it now", school.string(piece, 0, lute), 3);
    }

    private static void ownerAndInstruments() {
        FretSchool school = new FretSchool();
        CHECKS.refuses("7: no instrument", Checks.INDEX, () -> school.owner(0));
        for (int i = 0; i < 8; i++) {
            CHECKS.same("8: instruments", school.instruments(), i);
            Schools.build(school, (i * 3 + 1) % 5, 4, 0, 0, 0, 0);
        }
        CHECKS.same("8: at the end", school.instruments(), 8);
        for (int i = 0; i < 8; i++) {
            CHECKS.same("7: owner", school.owner(i), (i * 3 + 1) % 5);
        }
        CHECKS.refuses("7: instrument 8", Checks.INDEX, () -> school.owner(8));
        CHECKS.refuses("7: instrument -1", Checks.INDEX, () -> school.owner(-1));
        school.addWood(1, 3);
        school.order(0, 1, 4);
        CHECKS.same("8: an order is no instrument", school.instruments(), 8);
    }
}
