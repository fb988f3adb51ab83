import java.util.ArrayList;
import java.util.Arrays;
import java.util.List;

/**
 * The document once more, in another way than the program, to hold the two against each other: fingerings are
 * found forward, by the best whole row up to each position, or, for short pieces, among all rows written out.
 * Each call answers a text: the answer, or the name of the exception.
 */
final class Model {
    private static final String INDEX = "IndexOutOfBoundsException";
    private static final String ARGUMENT = "IllegalArgumentException";
    private static final String STATE = "IllegalStateException";

    private static final class Built {
        int owner;
        int frets;
        int[] open;
    }

    private static final class Order {
        int pupil;
        int frets;
        int ready;
        boolean fetched;
    }

    private final List<List<Integer>> pieces = new ArrayList<>();
    private final List<Built> instruments = new ArrayList<>();
    private final List<Order> orders = new ArrayList<>();
    private final int[] levels = {2, 2, 2, 2, 2};
    private final int[] known = new int[5];
    private final int[] woods = new int[4];
    private int today = 0;

    String answer(String call, int[] a) {
        switch (call) {
            case "begin": return begin();
            case "addNote": return addNote(a[0], a[1]);
            case "transpose": return transpose(a[0], a[1]);
            case "pitch": return hasNote(a[0], a[1]) ? "" + pieces.get(a[0]).get(a[1]) : INDEX;
            case "tune": return tune(a[0], a[1], a[2]);
            case "owner": return has(instruments, a[0]) ? "" + instruments.get(a[0]).owner : INDEX;
            case "instruments": return "" + instruments.size();
            case "shifts": return ofBest(a[0], 0, a[1], false, "sum");
            case "shiftsByAll": return byAll(a[0], a[1]);
            case "hardest": return ofBest(a[0], 0, a[1], false, "greatest");
            case "position": return ofBest(a[0], a[1], a[2], true, "position");
            case "string": return ofBest(a[0], a[1], a[2], true, "string");
            case "learn": return learn(a[0], a[1], a[2]);
            case "level": return in(a[0], 0, 4) ? "" + levels[a[0]] : ARGUMENT;
            case "known": return in(a[0], 0, 4) ? "" + known[a[0]] : ARGUMENT;
            case "next": return next(a[0]);
            case "addWood": return in(a[0], 0, 3) && in(a[1], 1, 20) ? "" + (woods[a[0]] += a[1]) : ARGUMENT;
            case "order": return order(a[0], a[1], a[2]);
            case "ready": return has(orders, a[0]) ? "" + orders.get(a[0]).ready : INDEX;
            case "fetch": return fetch(a[0], new int[] {a[1], a[2], a[3], a[4]});
            case "pass": return !in(a[0], 1, 100) ? ARGUMENT : today + a[0] > 5000 ? STATE : "" + (today += a[0]);
            default: return "" + today;
        }
    }

    private static boolean in(int value, int least, int most) {
        return least <= value && value <= most;
    }

    private static boolean has(List<?> list, int number) {
        return in(number, 0, list.size() - 1);
    }

    private boolean hasNote(int piece, int note) {
        return has(pieces, piece) && has(pieces.get(piece), note);
    }

    private String begin() {
        if (pieces.size() == 8) {
            return STATE;
        }
        pieces.add(new ArrayList<>());
        return "" + (pieces.size() - 1);
    }

    private String addNote(int piece, int pitch) {
        if (!has(pieces, piece)) {
            return INDEX;
        }
        if (!in(pitch, 0, 80)) {
            return ARGUMENT;
        }
        if (pieces.get(piece).size() == 16) {
            return STATE;
        }
        pieces.get(piece).add(pitch);
        return "" + pieces.get(piece).size();
    }

    private String transpose(int piece, int by) {
        if (!has(pieces, piece)) {
            return INDEX;
        }
        if (!in(by, -40, 40)) {
            return ARGUMENT;
        }
        if (pieces.get(piece).stream().anyMatch(pitch -> !in(pitch + by, 0, 80))) {
            return STATE;
        }
        pieces.get(piece).replaceAll(pitch -> pitch + by);
        return "done";
    }

    private String tune(int instrument, int string, int pitch) {
        if (!has(instruments, instrument)) {
            return INDEX;
        }
        if (!in(string, 0, 3) || !in(pitch, 0, 60)) {
            return ARGUMENT;
        }
        int before = instruments.get(instrument).open[string];
        instruments.get(instrument).open[string] = pitch;
        return "" + before;
    }

    private String ofBest(int piece, int note, int instrument, boolean needsNote, String what) {
        if (!has(pieces, piece) || !has(instruments, instrument) || needsNote && !hasNote(piece, note)) {
            return INDEX;
        }
        int[] row = best(piece, instrument);
        if (row == null) {
            return "-1";
        }
        switch (what) {
            case "sum": return "" + sum(row);
            case "greatest": return "" + greatest(row);
            case "position": return "" + row[note];
            default: return "" + strings(pieces.get(piece).get(note), row[note], instruments.get(instrument)).get(0);
        }
    }

    private String byAll(int piece, int instrument) {
        if (!has(pieces, piece) || !has(instruments, instrument)) {
            return INDEX;
        }
        return pieces.get(piece).size() > 4 ? STATE : ofBest(piece, 0, instrument, false, "sum");
    }

    private static List<Integer> strings(int pitch, int position, Built lute) {
        List<Integer> strings = new ArrayList<>();
        for (int string = 0; string < 4; string++) {
            int fret = pitch - lute.open[string];
            boolean lies = in(fret, 0, lute.frets);
            if (lies && (fret == 0 || in(fret, position, position + 3))) {
                strings.add(string);
            }
        }
        return strings;
    }

    private static int sum(int[] row) {
        int sum = 0;
        for (int i = 1; i < row.length; i++) {
            sum += Math.abs(row[i] - row[i - 1]);
        }
        return sum;
    }

    private static int greatest(int[] row) {
        int greatest = 0;
        for (int i = 1; i < row.length; i++) {
            greatest = Math.max(greatest, Math.abs(row[i] - row[i - 1]));
        }
        return greatest;
    }

    private int[] best(int piece, int instrument) {
        List<Integer> notes = pieces.get(piece);
        Built lute = instruments.get(instrument);
        if (notes.isEmpty()) {
            return null;
        }
        List<int[]> rows = new ArrayList<>();
        rows.add(new int[0]);
        for (int note = 0; note < notes.size(); note++) {
            List<int[]> longer = new ArrayList<>();
            for (int position = 1; position <= lute.frets - 3; position++) {
                if (!strings(notes.get(note), position, lute).isEmpty()) {
                    extend(rows, position, notes.size() <= 3, longer);
                }
            }
            rows = longer;
        }
        return rows.stream().min(Model::compare).orElse(null);
    }

    private static void extend(List<int[]> rows, int position, boolean all, List<int[]> longer) {
        List<int[]> extended = new ArrayList<>();
        for (int[] row : rows) {
            int[] next = Arrays.copyOf(row, row.length + 1);
            next[row.length] = position;
            extended.add(next);
        }
        if (all) {
            longer.addAll(extended);
        } else {
            extended.stream().min(Model::compare).ifPresent(longer::add);
        }
    }

    private static int compare(int[] one, int[] other) {
        return sum(one) != sum(other) ? Integer.compare(sum(one), sum(other)) : Arrays.compare(one, other);
    }

    /** The greatest shift with which the pupil can learn the piece there, -1 if the pupil cannot. */
    private int learnable(int pupil, int piece, int instrument) {
        int[] row = instruments.get(instrument).owner == pupil ? best(piece, instrument) : null;
        return row == null || greatest(row) > levels[pupil] ? -1 : greatest(row);
    }

    private String learn(int pupil, int piece, int instrument) {
        if (!has(pieces, piece) || !has(instruments, instrument)) {
            return INDEX;
        }
        if (!in(pupil, 0, 4)) {
            return ARGUMENT;
        }
        int greatest = learnable(pupil, piece, instrument);
        if (greatest < 0 || (known[pupil] >> piece & 1) == 1) {
            return STATE;
        }
        known[pupil] += 1 << piece;
        levels[pupil] += greatest == levels[pupil] ? 1 : 0;
        return "" + levels[pupil];
    }

    private String next(int pupil) {
        if (!in(pupil, 0, 4)) {
            return ARGUMENT;
        }
        for (int greatest = 0; greatest <= levels[pupil]; greatest++) {
            for (int piece = 0; piece < pieces.size(); piece++) {
                for (int instrument = 0; instrument < instruments.size(); instrument++) {
                    if ((known[pupil] >> piece & 1) == 0 && learnable(pupil, piece, instrument) == greatest) {
                        return "" + piece;
                    }
                }
            }
        }
        return "-1";
    }

    private String order(int pupil, int wood, int frets) {
        if (!in(pupil, 0, 4) || !in(wood, 0, 3) || !in(frets, 4, 16)) {
            return ARGUMENT;
        }
        long atWork = orders.stream().filter(order -> !order.fetched && order.ready > today).count();
        if (woods[wood] < 3 || atWork >= 2 || orders.size() == 20) {
            return STATE;
        }
        woods[wood] -= 3;
        Order order = new Order();
        order.pupil = pupil;
        order.frets = frets;
        order.ready = today + 2 * frets;
        orders.add(order);
        return "" + (orders.size() - 1);
    }

    private String fetch(int number, int[] open) {
        if (!has(orders, number)) {
            return INDEX;
        }
        if (!Arrays.stream(open).allMatch(pitch -> in(pitch, 0, 60))) {
            return ARGUMENT;
        }
        Order order = orders.get(number);
        if (order.fetched || order.ready > today || instruments.size() == 8) {
            return STATE;
        }
        order.fetched = true;
        Built lute = new Built();
        lute.owner = order.pupil;
        lute.frets = order.frets;
        lute.open = open;
        instruments.add(lute);
        return "" + (instruments.size() - 1);
    }
}
