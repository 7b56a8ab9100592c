/**
 * Cargo in packets at stations and in wagons: what is produced, put aboard, delivered, paid for,
 * made into another kind, poured together and parted.
 */
public final class PacketStores {
    public static final int NONE = -1;

    private static final int KINDS = 4;
    private static final int STATIONS = 8;
    private static final int WAGONS = 16;

    private static final int MOST_PACKETS = 8;
    private static final int MOST_STOCK = 999;
    private static final int MOST_ROOM = 80;
    private static final int MOST_RATE = 31;
    private static final int MOST_COORDINATE = 99;
    private static final int MOST_PASSED = 2000;
    private static final int MOST_COUNTED = 2_000_000_000;

    private static final int ALL_KINDS = (1 << KINDS) - 1;
    private static final int FIRST_MONEY = 10_000;
    private static final int PRODUCING_EVERY = 16;
    private static final int FULL_PAY = 64;
    private static final int PAY_FALLS_EVERY = 64;

    private static final int ORIGIN = 0;
    private static final int AMOUNT = 1;
    private static final int BORN = 2;

    // What belongs to a station and a kind stands at stockIndex(station, kind).
    private final Row[] stocks = new Row[STATIONS * KINDS];
    private final int[] rates = new int[STATIONS * KINDS];
    private final int[] madeKinds = new int[STATIONS * KINDS];

    private final int[] placeColumns = new int[STATIONS];
    private final int[] placeRows = new int[STATIONS];
    private final int[] acceptedKinds = new int[STATIONS];

    private final Row[] aboard = new Row[WAGONS];
    private final int[] wagonKinds = new int[WAGONS];
    private final int[] wagonRooms = new int[WAGONS];

    private final int[] produced = new int[KINDS];
    private final int[] delivered = new int[KINDS];
    private final int[] dumped = new int[KINDS];

    private int time = 0;
    private int money = FIRST_MONEY;
    private int earned = 0;
    private int spent = 0;

    public PacketStores() {
        for (int i = 0; i < STATIONS * KINDS; i++) {
            stocks[i] = new Row();
            madeKinds[i] = NONE;
        }
        for (int i = 0; i < WAGONS; i++) {
            aboard[i] = new Row();
        }
    }

    public void place(int station, int column, int row)
            throws IndexOutOfBoundsException, IllegalArgumentException {
        checkStation(station);
        checkRange(column, MOST_COORDINATE);
        checkRange(row, MOST_COORDINATE);
        placeColumns[station] = column;
        placeRows[station] = row;
    }

    public void rate(int station, int kind, int rate)
            throws IndexOutOfBoundsException, IllegalArgumentException {
        checkStation(station);
        checkKind(kind);
        checkRange(rate, MOST_RATE);
        rates[stockIndex(station, kind)] = rate;
    }

    public void accept(int station, int kinds)
            throws IndexOutOfBoundsException, IllegalArgumentException {
        checkStation(station);
        checkRange(kinds, ALL_KINDS);
        acceptedKinds[station] = kinds;
    }

    public void make(int station, int kind, int made)
            throws IndexOutOfBoundsException, IllegalArgumentException {
        checkStation(station);
        checkKind(kind);
        if (made != NONE && !isKind(made)) {
            throw new IllegalArgumentException("what is made is no kind");
        }
        madeKinds[stockIndex(station, kind)] = made;
    }

    public void wagon(int wagon, int kind, int room)
            throws IndexOutOfBoundsException, IllegalArgumentException {
        checkWagon(wagon);
        checkKind(kind);
        checkRange(room, MOST_ROOM);
        int unitsAboard = aboard[wagon].total();
        if (unitsAboard > room) {
            throw new IllegalArgumentException("more units are aboard");
        }
        if (unitsAboard > 0 && wagonKinds[wagon] != kind) {
            throw new IllegalArgumentException("units of another kind are aboard");
        }
        wagonKinds[wagon] = kind;
        wagonRooms[wagon] = room;
    }

    public int pass(int n) throws IllegalArgumentException {
        checkRange(n, MOST_PASSED);
        if (n > MOST_COUNTED - time) {
            throw new IllegalArgumentException("time would be too great");
        }
        int end = time + n;
        // Nothing happens between two multiples, so time goes from one to the next.
        int next = time - time % PRODUCING_EVERY + PRODUCING_EVERY;
        for (int t = next; t <= end; t += PRODUCING_EVERY) {
            time = t;
            produceEverywhere();
        }
        time = end;
        return time;
    }

    public int load(int wagon, int station, int n)
            throws IndexOutOfBoundsException, IllegalArgumentException {
        checkWagon(wagon);
        checkStation(station);
        checkNotBelowZero(n);
        Row stock = stocks[stockIndex(station, wagonKinds[wagon])];
        return stock.moveTo(aboard[wagon], n, wagonRooms[wagon]);
    }

    public int unload(int wagon, int station, int n)
            throws IndexOutOfBoundsException, IllegalArgumentException {
        checkWagon(wagon);
        checkStation(station);
        checkNotBelowZero(n);
        int kind = wagonKinds[wagon];
        if ((acceptedKinds[station] >> kind & 1) == 1) {
            return deliverFrom(aboard[wagon], station, kind, n);
        }
        return aboard[wagon].moveTo(stocks[stockIndex(station, kind)], n, MOST_STOCK);
    }

    public void pour(int a, int b) throws IndexOutOfBoundsException, IllegalArgumentException {
        checkWagon(a);
        checkWagon(b);
        checkFellows(a, b);
        int poured = aboard[b].total();
        if (poured > wagonRooms[a] - aboard[a].total()) {
            throw new IllegalArgumentException("there is no room for all");
        }
        aboard[b].moveTo(aboard[a], poured, wagonRooms[a]);
    }

    public void part(int a, int n, int b)
            throws IndexOutOfBoundsException, IllegalArgumentException {
        checkWagon(a);
        checkWagon(b);
        checkNotBelowZero(n);
        checkFellows(a, b);
        if (aboard[b].total() > 0) {
            throw new IllegalArgumentException("the second wagon has units");
        }
        if (aboard[a].total() - n > wagonRooms[b]) {
            throw new IllegalArgumentException("there is no room for all");
        }
        aboard[a].moveAllBehind(n, aboard[b]);
    }

    public int dump(int wagon) throws IndexOutOfBoundsException {
        checkWagon(wagon);
        int gone = aboard[wagon].total();
        aboard[wagon].clear();
        dumped[wagonKinds[wagon]] += gone;
        return gone;
    }

    public boolean spend(int n) {
        if (n < 0 || n > money || n > MOST_COUNTED - spent) {
            return false;
        }
        money -= n;
        spent += n;
        return true;
    }

    public int packet(int where, int kind, int j, int what) {
        Row row = rowAt(where, kind);
        return row == null ? NONE : row.look(j, what);
    }

    public int units(int where, int kind) {
        Row row = rowAt(where, kind);
        return row == null ? NONE : row.total();
    }

    public int count(int kind, int what) {
        if (!isKind(kind)) {
            return NONE;
        }
        switch (what) {
            case 0:
                return produced[kind];
            case 1:
                return delivered[kind];
            case 2:
                return dumped[kind];
            case 3:
                return unitsInStocks(kind);
            case 4:
                return unitsInWagons(kind);
            default:
                return NONE;
        }
    }

    public int sum(int what) {
        switch (what) {
            case 0:
                return money;
            case 1:
                return earned;
            case 2:
                return spent;
            case 3:
                return time;
            default:
                return NONE;
        }
    }

    private void produceEverywhere() {
        for (int station = 0; station < STATIONS; station++) {
            for (int kind = 0; kind < KINDS; kind++) {
                produce(station, kind, rates[stockIndex(station, kind)]);
            }
        }
    }

    private void produce(int station, int kind, int n) {
        Row stock = stocks[stockIndex(station, kind)];
        int room = Math.min(MOST_STOCK - stock.total(), MOST_COUNTED - produced[kind]);
        int come = Math.min(n, room);
        stock.putBehind(station, time, come);
        produced[kind] += come;
    }

    private int deliverFrom(Row cargo, int station, int kind, int n) {
        int gone = Math.min(n, cargo.total());
        int left = gone;
        for (int turn = 0; turn < MOST_PACKETS && left > 0; turn++) {
            int part = Math.min(left, cargo.look(0, AMOUNT));
            earn(part * payOfOne(cargo.look(0, ORIGIN), cargo.look(0, BORN), station));
            cargo.takeFromFirst(part);
            left -= part;
        }
        delivered[kind] += gone;
        int made = madeKinds[stockIndex(station, kind)];
        if (made != NONE) {
            produce(station, made, gone);
        }
        return gone;
    }

    private int payOfOne(int origin, int born, int station) {
        int columnsApart = Math.abs(placeColumns[origin] - placeColumns[station]);
        int rowsApart = Math.abs(placeRows[origin] - placeRows[station]);
        int pay = Math.max(1, FULL_PAY - (time - born) / PAY_FALLS_EVERY);
        return (columnsApart + rowsApart) * pay;
    }

    private void earn(int pay) {
        int most = Math.min(MOST_COUNTED - money, MOST_COUNTED - earned);
        int paid = Math.min(pay, most);
        money += paid;
        earned += paid;
    }

    private int unitsInStocks(int kind) {
        int units = 0;
        for (int station = 0; station < STATIONS; station++) {
            units += stocks[stockIndex(station, kind)].total();
        }
        return units;
    }

    private int unitsInWagons(int kind) {
        int units = 0;
        for (int wagon = 0; wagon < WAGONS; wagon++) {
            if (wagonKinds[wagon] == kind) {
                units += aboard[wagon].total();
            }
        }
        return units;
    }

    /** The row that packet() and units() speak of, or null if there is none such. */
    private Row rowAt(int where, int kind) {
        if (isStation(where)) {
            return isKind(kind) ? stocks[stockIndex(where, kind)] : null;
        }
        if (where < STATIONS || where >= STATIONS + WAGONS) {
            return null;
        }
        return aboard[where - STATIONS];
    }

    /** Two wagons whose cargo may be poured together or parted. */
    private void checkFellows(int a, int b) {
        if (a == b) {
            throw new IllegalArgumentException("the wagons are the same");
        }
        if (wagonKinds[a] != wagonKinds[b]) {
            throw new IllegalArgumentException("the wagons are of different kinds");
        }
    }

    private static int stockIndex(int station, int kind) {
        return station * KINDS + kind;
    }

    private static boolean isStation(int station) {
        return station >= 0 && station < STATIONS;
    }

    private static boolean isKind(int kind) {
        return kind >= 0 && kind < KINDS;
    }

    private static void checkStation(int station) {
        if (!isStation(station)) {
            throw new IndexOutOfBoundsException("no such station");
        }
    }

    private static void checkKind(int kind) {
        if (!isKind(kind)) {
            throw new IndexOutOfBoundsException("no such kind");
        }
    }

    private static void checkWagon(int wagon) {
        if (wagon < 0 || wagon >= WAGONS) {
            throw new IndexOutOfBoundsException("no such wagon");
        }
    }

    private static void checkRange(int value, int most) {
        if (value < 0 || value > most) {
            throw new IllegalArgumentException("a number is below 0 or too great");
        }
    }

    private static void checkNotBelowZero(int n) {
        if (n < 0) {
            throw new IllegalArgumentException("n is below 0");
        }
    }

    /**
     * Packets in order. Units of one packet are put and taken together: the first of them settles
     * which packet the others join, so it comes to the same as one by one.
     */
    private static final class Row {
        private final int[] origins = new int[MOST_PACKETS];
        private final int[] amounts = new int[MOST_PACKETS];
        private final int[] births = new int[MOST_PACKETS];
        private int packets = 0;
        private int total = 0;

        int total() {
            return total;
        }

        int look(int j, int what) {
            if (j < 0 || j >= packets) {
                return NONE;
            }
            switch (what) {
                case ORIGIN:
                    return origins[j];
                case AMOUNT:
                    return amounts[j];
                case BORN:
                    return births[j];
                default:
                    return NONE;
            }
        }

        void clear() {
            packets = 0;
            total = 0;
        }

        void putBehind(int origin, int born, int n) {
            if (n <= 0) {
                return;
            }
            if (packets < MOST_PACKETS && !lastIs(origin, born)) {
                origins[packets] = origin;
                births[packets] = born;
                amounts[packets] = 0;
                packets++;
            }
            amounts[packets - 1] += n;
            total += n;
        }

        private boolean lastIs(int origin, int born) {
            int last = packets - 1;
            return last >= 0 && origins[last] == origin && births[last] == born;
        }

        /** Takes n units of the first packet, which has so many. */
        void takeFromFirst(int n) {
            amounts[0] -= n;
            total -= n;
            if (amounts[0] == 0) {
                dropFirst();
            }
        }

        private void dropFirst() {
            for (int j = 1; j < packets; j++) {
                origins[j - 1] = origins[j];
                amounts[j - 1] = amounts[j];
                births[j - 1] = births[j];
            }
            packets--;
        }

        /** Moves up to n units, the first ones first, while the other row has at most so many. */
        int moveTo(Row other, int n, int mostThere) {
            int moved = Math.min(n, Math.min(total, mostThere - other.total));
            int left = moved;
            for (int turn = 0; turn < MOST_PACKETS && left > 0; turn++) {
                int part = Math.min(left, amounts[0]);
                other.putBehind(origins[0], births[0], part);
                takeFromFirst(part);
                left -= part;
            }
            return moved;
        }

        /** Moves all units behind the first n. */
        void moveAllBehind(int n, Row other) {
            int stay = Math.min(n, total);
            int left = stay;
            int kept = 0;
            for (int j = 0; j < packets; j++) {
                int part = Math.min(left, amounts[j]);
                other.putBehind(origins[j], births[j], amounts[j] - part);
                amounts[j] = part;
                left -= part;
                if (part > 0) {
                    kept = j + 1;
                }
            }
            packets = kept;
            total = stay;
        }
    }
}
