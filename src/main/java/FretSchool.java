/**
 * A school for fretted instruments: pieces, instruments, positions of the hand, lessons and a luthier.
 * What each public method answers stands in shared/DOC.md, and is not written again here, lest the two drift apart.
 */
public final class FretSchool {
    public static final int NONE = -1;

    private static final int MOST_PIECES = 8;
    private static final int MOST_NOTES = 16;
    private static final int MOST_NOTES_BY_ALL = 4;
    private static final int HIGHEST_PITCH = 80;
    private static final int HIGHEST_OPEN_PITCH = 60;
    private static final int WIDEST_TRANSPOSE = 40;
    private static final int MOST_INSTRUMENTS = 8;
    private static final int STRINGS = 4;
    private static final int LEAST_FRETS = 4;
    private static final int MOST_FRETS = 16;
    private static final int HAND_REACH = 3;
    private static final int MOST_POSITIONS = MOST_FRETS - HAND_REACH;
    private static final int PUPILS = 5;
    private static final int FIRST_LEVEL = 2;
    private static final int WOODS = 4;
    private static final int MOST_WOOD_ADDED = 20;
    private static final int WOOD_FOR_ORDER = 3;
    private static final int DAYS_FOR_FRET = 2;
    private static final int MOST_ORDERS = 20;
    private static final int MOST_AT_WORK = 2;
    private static final int MOST_DAYS_PASSED = 100;
    private static final int LAST_DAY = 5000;

    private final Piece[] pieces;
    private final Instrument[] builds;
    private final Pupil[] pupils;
    private final Order[] orders;
    private final int[] stock;
    private final Hand hand;
    private int pieceCount;
    private int buildCount;
    private int orderCount;
    private int day;

    /** Everything that a school can ever hold is made here, so that no call makes anything more. */
    public FretSchool() {
        pieces = new Piece[MOST_PIECES];
        for (int i = 0; i < MOST_PIECES; i++) {
            pieces[i] = new Piece();
        }
        builds = new Instrument[MOST_INSTRUMENTS];
        for (int i = 0; i < MOST_INSTRUMENTS; i++) {
            builds[i] = new Instrument();
        }
        pupils = new Pupil[PUPILS];
        for (int i = 0; i < PUPILS; i++) {
            pupils[i] = new Pupil();
        }
        orders = new Order[MOST_ORDERS];
        for (int i = 0; i < MOST_ORDERS; i++) {
            orders[i] = new Order();
        }
        stock = new int[WOODS];
        hand = new Hand();
        pieceCount = 0;
        buildCount = 0;
        orderCount = 0;
        day = 0;
    }

    // ---- pieces

    public int begin() throws IllegalStateException {
        if (pieceCount >= MOST_PIECES) {
            throw new IllegalStateException("there are 8 pieces");
        }
        int number = pieceCount;
        pieceCount++;
        return number;
    }

    public int addNote(int piece, int pitch)
            throws IndexOutOfBoundsException, IllegalArgumentException, IllegalStateException {
        needPiece(piece);
        needRange(pitch, 0, HIGHEST_PITCH);
        Piece changed = pieces[piece];
        if (changed.isFull()) {
            throw new IllegalStateException("the piece has 16 notes");
        }
        changed.append(pitch);
        return changed.count;
    }

    public void transpose(int piece, int by)
            throws IndexOutOfBoundsException, IllegalArgumentException, IllegalStateException {
        needPiece(piece);
        needRange(by, -WIDEST_TRANSPOSE, WIDEST_TRANSPOSE);
        Piece changed = pieces[piece];
        if (!changed.canMove(by)) {
            throw new IllegalStateException("some pitch would not be from 0 to 80");
        }
        changed.move(by);
    }

    public int pitch(int piece, int note) throws IndexOutOfBoundsException {
        needNote(piece, note);
        return pieces[piece].pitches[note];
    }

    // ---- instruments

    public int tune(int instrument, int string, int pitch)
            throws IndexOutOfBoundsException, IllegalArgumentException {
        needInstrument(instrument);
        needRange(string, 0, STRINGS - 1);
        needRange(pitch, 0, HIGHEST_OPEN_PITCH);
        int[] open = builds[instrument].open;
        int before = open[string];
        open[string] = pitch;
        return before;
    }

    public int owner(int instrument) throws IndexOutOfBoundsException {
        needInstrument(instrument);
        return builds[instrument].keeper;
    }

    public int instruments() {
        return buildCount;
    }

    // ---- positions

    public int shifts(int piece, int instrument) throws IndexOutOfBoundsException {
        return findBest(piece, instrument) ? hand.sum : NONE;
    }

    public int shiftsByAll(int piece, int instrument) throws IndexOutOfBoundsException, IllegalStateException {
        needPiece(piece);
        needInstrument(instrument);
        if (pieces[piece].count > MOST_NOTES_BY_ALL) {
            throw new IllegalStateException("the piece has more than 4 notes");
        }
        return hand.leastByAll(pieces[piece], builds[instrument]);
    }

    public int hardest(int piece, int instrument) throws IndexOutOfBoundsException {
        return findBest(piece, instrument) ? hand.greatest : NONE;
    }

    public int position(int piece, int note, int instrument) throws IndexOutOfBoundsException {
        needNote(piece, note);
        return findBest(piece, instrument) ? hand.row[note] : NONE;
    }

    public int string(int piece, int note, int instrument) throws IndexOutOfBoundsException {
        needNote(piece, note);
        if (!findBest(piece, instrument)) {
            return NONE;
        }
        return builds[instrument].lowestString(pieces[piece].pitches[note], hand.row[note]);
    }

    // ---- lessons

    public int learn(int pupil, int piece, int instrument)
            throws IndexOutOfBoundsException, IllegalArgumentException, IllegalStateException {
        needPiece(piece);
        needInstrument(instrument);
        needPupil(pupil);
        Pupil learner = pupils[pupil];
        if (learner.knows(piece)) {
            throw new IllegalStateException("the pupil knows the piece");
        }
        int greatest = learnableShift(pupil, piece, instrument);
        if (greatest == NONE) {
            throw new IllegalStateException("the pupil cannot learn the piece there");
        }
        learner.takeIn(piece, greatest);
        return learner.grade;
    }

    public int level(int pupil) throws IllegalArgumentException {
        needPupil(pupil);
        return pupils[pupil].grade;
    }

    public int known(int pupil) throws IllegalArgumentException {
        needPupil(pupil);
        return pupils[pupil].repertoire;
    }

    public int next(int pupil) throws IllegalArgumentException {
        needPupil(pupil);
        int chosen = NONE;
        int least = 0;
        for (int piece = 0; piece < pieceCount; piece++) {
            int shift = pupils[pupil].knows(piece) ? NONE : easiestShift(pupil, piece);
            if (shift != NONE && (chosen == NONE || shift < least)) {
                chosen = piece;
                least = shift;
            }
        }
        return chosen;
    }

    // ---- luthier

    public int addWood(int wood, int many) throws IllegalArgumentException {
        needRange(wood, 0, WOODS - 1);
        needRange(many, 1, MOST_WOOD_ADDED);
        stock[wood] += many;
        return stock[wood];
    }

    public int order(int pupil, int wood, int frets) throws IllegalArgumentException, IllegalStateException {
        needPupil(pupil);
        needRange(wood, 0, WOODS - 1);
        needRange(frets, LEAST_FRETS, MOST_FRETS);
        if (stock[wood] < WOOD_FOR_ORDER) {
            throw new IllegalStateException("there is too little of the wood");
        }
        if (ordersAtWork() >= MOST_AT_WORK) {
            throw new IllegalStateException("two orders are at work");
        }
        if (orderCount >= MOST_ORDERS) {
            throw new IllegalStateException("there are 20 orders");
        }
        stock[wood] -= WOOD_FOR_ORDER;
        int number = orderCount;
        orders[number].place(pupil, frets, day + DAYS_FOR_FRET * frets);
        orderCount++;
        return number;
    }

    public int ready(int order) throws IndexOutOfBoundsException {
        needOrder(order);
        return orders[order].readyDay;
    }

    public int fetch(int order, int first, int second, int third, int fourth)
            throws IndexOutOfBoundsException, IllegalArgumentException, IllegalStateException {
        needOrder(order);
        needRange(first, 0, HIGHEST_OPEN_PITCH);
        needRange(second, 0, HIGHEST_OPEN_PITCH);
        needRange(third, 0, HIGHEST_OPEN_PITCH);
        needRange(fourth, 0, HIGHEST_OPEN_PITCH);
        Order fetched = orders[order];
        if (!fetched.isReady(day)) {
            throw new IllegalStateException("the order is not ready");
        }
        if (fetched.isFetched) {
            throw new IllegalStateException("the order was fetched");
        }
        if (buildCount >= MOST_INSTRUMENTS) {
            throw new IllegalStateException("there are 8 instruments");
        }
        fetched.isFetched = true;
        int number = buildCount;
        builds[number].build(fetched.buyer, fetched.fretCount);
        builds[number].tuneAll(first, second, third, fourth);
        buildCount++;
        return number;
    }

    public int pass(int days) throws IllegalArgumentException, IllegalStateException {
        needRange(days, 1, MOST_DAYS_PASSED);
        if (day + days > LAST_DAY) {
            throw new IllegalStateException("today would be above 5000");
        }
        day += days;
        return day;
    }

    public int today() {
        return day;
    }

    // ---- what the calls share

    private void needPiece(int piece) {
        if (piece < 0 || piece >= pieceCount) {
            throw new IndexOutOfBoundsException("there is no such piece");
        }
    }

    private void needNote(int piece, int note) {
        needPiece(piece);
        if (note < 0 || note >= pieces[piece].count) {
            throw new IndexOutOfBoundsException("there is no such note");
        }
    }

    private void needInstrument(int instrument) {
        if (instrument < 0 || instrument >= buildCount) {
            throw new IndexOutOfBoundsException("there is no such instrument");
        }
    }

    private void needOrder(int order) {
        if (order < 0 || order >= orderCount) {
            throw new IndexOutOfBoundsException("there is no such order");
        }
    }

    private static void needPupil(int pupil) {
        needRange(pupil, 0, PUPILS - 1);
    }

    private static void needRange(int value, int least, int most) {
        if (value < least || value > most) {
            throw new IllegalArgumentException("an argument is out of range");
        }
    }

    /** Finds the best fingering, which the hand then holds; false if the piece cannot be played. */
    private boolean findBest(int piece, int instrument) {
        needPiece(piece);
        needInstrument(instrument);
        return hand.placeBest(pieces[piece], builds[instrument]);
    }

    /** The greatest shift if the pupil's hand and ownership let the pupil learn the piece there, else NONE. */
    private int learnableShift(int pupil, int piece, int instrument) {
        Instrument played = builds[instrument];
        if (played.keeper != pupil || !hand.placeBest(pieces[piece], played)) {
            return NONE;
        }
        return hand.greatest <= pupils[pupil].grade ? hand.greatest : NONE;
    }

    /** The least of the greatest shifts over the instruments on which the pupil can learn the piece, or NONE. */
    private int easiestShift(int pupil, int piece) {
        int least = NONE;
        for (int instrument = 0; instrument < buildCount; instrument++) {
            int shift = learnableShift(pupil, piece, instrument);
            if (shift != NONE && (least == NONE || shift < least)) {
                least = shift;
            }
        }
        return least;
    }

    private int ordersAtWork() {
        int atWork = 0;
        for (int i = 0; i < orderCount; i++) {
            if (!orders[i].isFetched && !orders[i].isReady(day)) {
                atWork++;
            }
        }
        return atWork;
    }

    private static final class Piece {
        final int[] pitches = new int[MOST_NOTES];
        int count = 0;

        boolean isFull() {
            return count >= MOST_NOTES;
        }

        void append(int pitch) {
            if (isFull()) {
                return;
            }
            pitches[count] = pitch;
            count++;
        }

        boolean canMove(int by) {
            for (int note = 0; note < count; note++) {
                int moved = pitches[note] + by;
                if (moved < 0 || moved > HIGHEST_PITCH) {
                    return false;
                }
            }
            return true;
        }

        void move(int by) {
            for (int note = 0; note < count; note++) {
                pitches[note] += by;
            }
        }
    }

    private static final class Instrument {
        final int[] open = new int[STRINGS];
        int keeper = 0;
        int fretCount = LEAST_FRETS;

        void build(int pupil, int frets) {
            keeper = pupil;
            fretCount = frets;
        }

        void tuneAll(int first, int second, int third, int fourth) {
            open[0] = first;
            open[1] = second;
            open[2] = third;
            open[3] = fourth;
        }

        int highestPosition() {
            return fretCount - HAND_REACH;
        }

        /** The lowest string on which the pitch can be played in the position, or NONE. */
        int lowestString(int pitch, int position) {
            for (int string = 0; string < STRINGS; string++) {
                int fret = pitch - open[string];
                if (fret == 0 || fret >= position && fret <= position + HAND_REACH) {
                    return string;
                }
            }
            return NONE;
        }
    }

    private static final class Pupil {
        int grade = FIRST_LEVEL;
        int repertoire = 0;

        boolean knows(int piece) {
            return (repertoire & (1 << piece)) != 0;
        }

        void takeIn(int piece, int greatestShift) {
            repertoire |= 1 << piece;
            if (greatestShift == grade) {
                grade++;
            }
        }
    }

    private static final class Order {
        int buyer = 0;
        int fretCount = LEAST_FRETS;
        int readyDay = 0;
        boolean isFetched = false;

        void place(int pupil, int frets, int day) {
            buyer = pupil;
            fretCount = frets;
            readyDay = day;
        }

        boolean isReady(int day) {
            return day >= readyDay;
        }
    }

    /** Finds fingerings. Its rows are made once and written anew for each question. */
    private static final class Hand {
        /** Stands for no fingering: far above any sum of shifts, and far below an overflow. */
        private static final int FAR = 1000000;
        /** Stands for no position, as before the first note: positions are from 1 on. */
        private static final int NOWHERE = 0;

        /** Bit h of a note's element: it can be played in the position h. */
        private final int[] reach = new int[MOST_NOTES];
        /** For a note in a position, the least sum of the shifts from it to the end, or FAR. */
        private final int[][] rest = new int[MOST_NOTES][MOST_POSITIONS + 1];
        /** The positions of the best fingering. */
        final int[] row = new int[MOST_NOTES];
        int sum = 0;
        int greatest = 0;

        /** Sets row, sum and greatest to those of the best fingering; false if the piece cannot be played. */
        boolean placeBest(Piece piece, Instrument instrument) {
            feelReach(piece, instrument);
            for (int note = piece.count - 1; note >= 0; note--) {
                measureRest(note, note == piece.count - 1);
            }
            return piece.count > 0 && chooseRow(piece.count);
        }

        /** The least sum of shifts of all fingerings, each of them tried; NONE if the piece cannot be played. */
        int leastByAll(Piece piece, Instrument instrument) {
            if (piece.count == 0) {
                return NONE;
            }
            feelReach(piece, instrument);
            int least = leastFrom(reach, piece.count, 0, NOWHERE);
            return least < FAR ? least : NONE;
        }

        private void feelReach(Piece piece, Instrument instrument) {
            int highest = instrument.highestPosition();
            for (int note = 0; note < piece.count; note++) {
                reach[note] = 0;
                for (int position = 1; position <= highest; position++) {
                    if (instrument.lowestString(piece.pitches[note], position) != NONE) {
                        reach[note] |= 1 << position;
                    }
                }
            }
        }

        private void measureRest(int note, boolean isLast) {
            for (int position = 1; position <= MOST_POSITIONS; position++) {
                int after = NOWHERE;
                if (!isLast) {
                    after = nearest(note + 1, position);
                }
                if (!canReach(reach[note], position) || !isLast && after == NOWHERE) {
                    rest[note][position] = FAR;
                } else {
                    rest[note][position] = isLast ? 0 : shift(position, after) + rest[note + 1][after];
                }
            }
        }

        /** Taking the lowest of the equally good positions at each note makes the row lowest where rows differ. */
        private boolean chooseRow(int count) {
            sum = 0;
            greatest = 0;
            int before = NOWHERE;
            for (int note = 0; note < count; note++) {
                int position = nearest(note, before);
                if (position == NOWHERE) {
                    return false;
                }
                int step = shift(before, position);
                sum += step;
                greatest = step > greatest ? step : greatest;
                row[note] = position;
                before = position;
            }
            return true;
        }

        /** The lowest position of a note with the least sum of shifts from the one before to the end, or NOWHERE. */
        private int nearest(int note, int before) {
            int chosen = NOWHERE;
            int least = FAR;
            for (int position = 1; position <= MOST_POSITIONS; position++) {
                int total = shift(before, position) + rest[note][position];
                if (total < least) {
                    chosen = position;
                    least = total;
                }
            }
            return chosen;
        }

        /** Calls itself once for each note; a piece with more notes than may be tried never comes here. */
        private static int leastFrom(int[] reach, int count, int note, int before) {
            if (note >= count || note >= MOST_NOTES_BY_ALL) {
                return 0;
            }
            int least = FAR;
            for (int position = 1; position <= MOST_POSITIONS; position++) {
                if (canReach(reach[note], position)) {
                    int total = shift(before, position) + leastFrom(reach, count, note + 1, position);
                    least = total < least ? total : least;
                }
            }
            return least;
        }

        private static boolean canReach(int positions, int position) {
            return (positions & (1 << position)) != 0;
        }

        private static int shift(int before, int position) {
            return before == NOWHERE ? 0 : Math.abs(position - before);
        }
    }
}
