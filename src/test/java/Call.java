/** One call of the class, by its name, that can be made on any school. */
record Call(String name, int[] a) {
    private static final int MOST_ARGUMENTS = 5;

    static Call of(String name, int... a) {
        return new Call(name, java.util.Arrays.copyOf(a, MOST_ARGUMENTS));
    }

    /**
     * The answer as a text, or the name of the very class that was thrown: what the machine throws bears another name.
     */
    String on(FretSchool school) {
        try {
            if (name.equals("transpose")) {
                school.transpose(a[0], a[1]);
                return "done";
            }
            return "" + number(school);
        } catch (RuntimeException e) {
            return e.getClass().getSimpleName();
        }
    }

    static boolean isRefusal(String answer) {
        return answer.endsWith("Exception");
    }

    private int number(FretSchool school) {
        switch (name) {
            case "begin": return school.begin();
            case "addNote": return school.addNote(a[0], a[1]);
            case "pitch": return school.pitch(a[0], a[1]);
            case "tune": return school.tune(a[0], a[1], a[2]);
            case "owner": return school.owner(a[0]);
            case "instruments": return school.instruments();
            case "shifts": return school.shifts(a[0], a[1]);
            case "shiftsByAll": return school.shiftsByAll(a[0], a[1]);
            case "hardest": return school.hardest(a[0], a[1]);
            case "position": return school.position(a[0], a[1], a[2]);
            case "string": return school.string(a[0], a[1], a[2]);
            case "learn": return school.learn(a[0], a[1], a[2]);
            case "level": return school.level(a[0]);
            case "known": return school.known(a[0]);
            case "next": return school.next(a[0]);
            case "addWood": return school.addWood(a[0], a[1]);
            case "order": return school.order(a[0], a[1], a[2]);
            case "ready": return school.ready(a[0]);
            case "fetch": return school.fetch(a[0], a[1], a[2], a[3], a[4]);
            case "pass": return school.pass(a[0]);
            case "today": return school.today();
            default: throw new AssertionError("there is no method " + name);
        }
    }

    @Override
    public String toString() {
        return name + java.util.Arrays.toString(a);
    }
}
