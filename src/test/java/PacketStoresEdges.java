/**
 * A test of its own for each sentence of the document that names an edge: too small, too large, empty,
 * full, a wrap-around, a refused call. Nothing is promised of an object after its 512th call, so no
 * object here gets more; where more is to be asked, the run is made again on a new one.
 */
public final class PacketStoresEdges {
    private static final Class<?> INDEX = IndexOutOfBoundsException.class;
    private static final Class<?> ARGUMENT = IllegalArgumentException.class;
    private static final int NONE = PacketStores.NONE;
    private static final int LOW = Integer.MIN_VALUE;
    private static final int HIGH = Integer.MAX_VALUE;

    // 1 << 30 times the four kinds wraps around to 0.
    private static final int[] NO_STATIONS = {-1, 8, 1 << 30, LOW, HIGH};
    private static final int[] NO_WAGONS = {-1, 16, 1 << 30, LOW, HIGH};
    private static final int[] NO_KINDS = {-1, 4, 1 << 30, LOW, HIGH};

    private static int wrong = 0;
    private static int edges = 0;
    private static String sentence = "";

    private interface Run {
        void on(PacketStores x);
    }

    private interface Test {
        void run();
    }

    private static void report(String what) {
        wrong++;
        System.out.println(sentence + "\n    " + what);
    }

    private static void due(String call, long got, long want) {
        if (got != want) {
            report(call + " answered " + got + ", due is " + want);
        }
    }

    private static void due(String call, boolean got, boolean want) {
        if (got != want) {
            report(call + " answered " + got + ", due is " + want);
        }
    }

    private static void rowDue(PacketStores x, int where, int kind, String want) {
        String got = row(x, where, kind);
        if (!got.equals(want)) {
            report("row " + where + ", " + kind + " is [" + got + "], due is [" + want + "]");
        }
    }

    /** A row as origin*units@born for each packet. */
    private static String row(PacketStores x, int where, int kind) {
        StringBuilder s = new StringBuilder();
        for (int j = 0; j < 9; j++) {
            if (x.packet(where, kind, j, 1) != NONE) {
                s.append(' ').append(x.packet(where, kind, j, 0));
                s.append('*').append(x.packet(where, kind, j, 1));
                s.append('@').append(x.packet(where, kind, j, 2));
            }
        }
        return s.toString().trim();
    }

    private static Class<?> thrownBy(PacketStores x, Run call) {
        try {
            call.on(x);
            return null;
        } catch (RuntimeException e) {
            return e.getClass();
        }
    }

    /** The call throws what is due, and all is then as if it had not been made. */
    private static void refused(String name, Class<?> want, Run before, Run call) {
        PacketStores x = new PacketStores();
        before.on(x);
        Class<?> got = thrownBy(x, call);
        if (got != want) {
            report(name + " threw " + got + ", due is " + want);
        }
        Run both = y -> {
            before.on(y);
            thrownBy(y, call);
        };
        if (!allThatShows(before).equals(allThatShows(both))) {
            report(name + " changed something");
        }
    }

    private static void refused(String name, Class<?> want, Run call) {
        refused(name, want, PacketStoresEdges::busy, call);
    }

    private static void taken(String name, Run before, Run call) {
        PacketStores x = new PacketStores();
        before.on(x);
        Class<?> got = thrownBy(x, call);
        if (got != null) {
            report(name + " threw " + got + ", due is nothing");
        }
    }

    private static void taken(String name, Run call) {
        taken(name, PacketStoresEdges::busy, call);
    }

    /** All that can be asked after a run, and all of the rest that later calls show. */
    private static String allThatShows(Run run) {
        StringBuilder s = new StringBuilder();
        for (int where = 0; where < 24; where++) {
            PacketStores x = after(run);
            for (int kind = 0; kind < (where < 8 ? 4 : 1); kind++) {
                s.append(x.units(where, kind)).append(':').append(row(x, where, kind)).append('|');
            }
        }
        showNumbers(after(run), s);
        showRates(after(run), s);
        showWagons(after(run), s);
        showStations(after(run), s);
        return s.toString();
    }

    private static PacketStores after(Run run) {
        PacketStores x = new PacketStores();
        run.on(x);
        return x;
    }

    private static void showNumbers(PacketStores x, StringBuilder s) {
        for (int kind = 0; kind < 4; kind++) {
            for (int what = 0; what < 5; what++) {
                s.append(x.count(kind, what)).append(' ');
            }
        }
        for (int what = 0; what < 4; what++) {
            s.append(x.sum(what)).append(' ');
        }
    }

    private static void showRates(PacketStores x, StringBuilder s) {
        x.pass(16);
        for (int station = 0; station < 8; station++) {
            for (int kind = 0; kind < 4; kind++) {
                s.append(x.units(station, kind)).append(' ');
            }
        }
    }

    private static void fillStationZero(PacketStores x) {
        for (int kind = 0; kind < 4; kind++) {
            x.rate(0, kind, 31);
        }
        x.pass(2000);
    }

    /** Room and kind of each wagon. */
    private static void showWagons(PacketStores x, StringBuilder s) {
        fillStationZero(x);
        for (int wagon = 0; wagon < 16; wagon++) {
            s.append(x.load(wagon, 0, HIGH));
            for (int kind = 0; kind < 4; kind++) {
                s.append('/').append(x.count(kind, 4));
            }
            s.append(' ');
        }
    }

    /** Place of each station, what it accepts, and what it makes of that. */
    private static void showStations(PacketStores x, StringBuilder s) {
        fillStationZero(x);
        for (int kind = 0; kind < 4; kind++) {
            x.dump(kind);
            x.wagon(kind, kind, 80);
            x.load(kind, 0, 80);
            for (int station = 0; station < 8; station++) {
                x.unload(kind, station, 1);
                s.append(x.sum(0)).append('/').append(x.count(kind, 1));
                for (int made = 0; made < 4; made++) {
                    s.append('/').append(x.count(made, 0));
                }
                s.append(' ');
            }
        }
    }

    /** Something of all: places, rates, cargo in stocks and wagons, kinds made and accepted, money spent. */
    private static void busy(PacketStores x) {
        x.place(0, 10, 20);
        x.place(1, 15, 8);
        x.place(7, 99, 3);
        x.rate(0, 0, 3);
        x.rate(0, 1, 2);
        x.rate(1, 0, 5);
        x.rate(7, 3, 31);
        x.accept(7, 3);
        x.accept(0, 8);
        x.make(7, 0, 3);
        x.make(7, 1, 2);
        x.make(0, 3, 1);
        x.wagon(0, 0, 20);
        x.wagon(1, 0, 30);
        x.wagon(2, 1, 80);
        x.wagon(3, 2, 7);
        x.wagon(15, 3, 80);
        x.pass(40);
        x.load(0, 0, 4);
        x.load(1, 1, 7);
        x.load(2, 0, 3);
        x.load(15, 7, 50);
        x.unload(0, 7, 1);
        x.unload(2, 7, 1);
        x.spend(100);
    }

    /** Station s produces so many of a kind once, at the next multiple of 16, and nothing after. */
    private static void produceOnce(PacketStores x, int station, int kind, int rate) {
        x.rate(station, kind, rate);
        x.pass(16 - x.sum(3) % 16);
        x.rate(station, kind, 0);
    }

    /** Wagon 0 (kind 0, room 80) has eight packets of two units of station 0, born 16, 32 .. 128. */
    private static void eightPackets(PacketStores x) {
        x.wagon(0, 0, 80);
        x.rate(0, 0, 2);
        x.pass(128);
        x.rate(0, 0, 0);
        x.load(0, 0, 16);
    }

    private static final String EIGHT = "0*2@16 0*2@32 0*2@48 0*2@64 0*2@80 0*2@96 0*2@112 0*2@128";

    // ---- Terms: rows and packets

    private static void atMostEightPackets() {
        PacketStores x = new PacketStores();
        x.rate(3, 1, 1);
        x.pass(7 * 16);
        rowDue(x, 3, 1, "3*1@16 3*1@32 3*1@48 3*1@64 3*1@80 3*1@96 3*1@112");
        x.pass(16);
        rowDue(x, 3, 1, "3*1@16 3*1@32 3*1@48 3*1@64 3*1@80 3*1@96 3*1@112 3*1@128");
        x.pass(16);
        rowDue(x, 3, 1, "3*1@16 3*1@32 3*1@48 3*1@64 3*1@80 3*1@96 3*1@112 3*2@128");
        due("there is no ninth packet", x.packet(3, 1, 8, 1), NONE);
        due("units", x.units(3, 1), 9);
    }

    private static void sameOriginAndSameTime() {
        PacketStores x = new PacketStores();
        x.wagon(0, 0, 80);
        produceOnce(x, 0, 0, 5);
        x.load(0, 0, 2);
        x.load(0, 0, 1);
        rowDue(x, 8, 0, "0*3@16");
        rowDue(x, 0, 0, "0*2@16");
    }

    private static void sameOriginAnotherTime() {
        PacketStores x = new PacketStores();
        x.wagon(0, 0, 80);
        produceOnce(x, 0, 0, 1);
        produceOnce(x, 0, 0, 1);
        x.load(0, 0, 2);
        rowDue(x, 8, 0, "0*1@16 0*1@32");
    }

    private static void anotherOriginSameTime() {
        PacketStores x = new PacketStores();
        x.wagon(0, 0, 80);
        x.rate(0, 0, 1);
        x.rate(1, 0, 1);
        x.pass(16);
        x.load(0, 0, 1);
        x.load(0, 1, 1);
        rowDue(x, 8, 0, "0*1@16 1*1@16");
    }

    private static void onlyTheLastPacketCounts() {
        PacketStores x = new PacketStores();
        x.wagon(0, 0, 80);
        x.rate(0, 0, 2);
        x.rate(1, 0, 1);
        x.pass(16);
        x.load(0, 0, 1);
        x.load(0, 1, 1);
        x.load(0, 0, 1);
        rowDue(x, 8, 0, "0*1@16 1*1@16 0*1@16");
        x.unload(0, 5, 1);
        rowDue(x, 8, 0, "1*1@16 0*1@16");
    }

    private static void ofEightTheLastWhateverItsOrigin() {
        PacketStores x = after(PacketStoresEdges::eightPackets);
        produceOnce(x, 5, 0, 3);
        x.load(0, 5, 3);
        rowDue(x, 8, 0, EIGHT.replace("0*2@128", "0*5@128"));
        due("packet 7 keeps its origin", x.packet(8, 0, 7, 0), 0);
        due("packet 7 keeps its time", x.packet(8, 0, 7, 2), 128);
    }

    private static void ofEightOneIsTakenFirst() {
        PacketStores x = after(PacketStoresEdges::eightPackets);
        produceOnce(x, 5, 0, 3);
        x.unload(0, 1, 2);
        x.load(0, 5, 3);
        rowDue(x, 8, 0, EIGHT.replace("0*2@16 ", "") + " 5*3@144");
    }

    private static void packetGoesWithItsLastUnit() {
        PacketStores x = after(PacketStoresEdges::eightPackets);
        x.unload(0, 1, 1);
        rowDue(x, 8, 0, EIGHT.replace("0*2@16", "0*1@16"));
        x.unload(0, 1, 1);
        rowDue(x, 8, 0, EIGHT.replace("0*2@16 ", ""));
        x.unload(0, 1, 13);
        rowDue(x, 8, 0, "0*1@128");
        x.unload(0, 1, 1);
        rowDue(x, 8, 0, "");
        due("units of the empty row", x.units(8, 0), 0);
    }

    private static void packetHasAtLeastOneUnit() {
        PacketStores x = new PacketStores();
        x.wagon(0, 0, 80);
        x.wagon(1, 0, 80);
        x.rate(0, 0, 0);
        x.pass(16);
        due("produced none", x.packet(0, 0, 0, 1), NONE);
        produceOnce(x, 0, 0, 4);
        x.load(0, 0, 0);
        due("loaded none", x.packet(8, 0, 0, 1), NONE);
        x.load(0, 0, 4);
        x.unload(0, 1, 0);
        due("unloaded none", x.packet(1, 0, 0, 1), NONE);
        x.part(0, 4, 1);
        due("parted none", x.packet(9, 0, 0, 1), NONE);
        x.part(0, 0, 1);
        due("none stays", x.packet(8, 0, 0, 1), NONE);
    }

    // ---- Terms: produced and delivered

    /** Station 2 has so many units of kind 1 in stock, at most 999; its rate is then 0. */
    private static void fillStock(PacketStores x, int units) {
        x.rate(2, 1, 31);
        x.pass(units / 31 * 16);
        x.rate(2, 1, 0);
        produceOnce(x, 2, 1, units % 31);
    }

    private static void stockStaysAtMost999() {
        for (int before = 967; before <= 999; before++) {
            PacketStores x = new PacketStores();
            fillStock(x, before);
            due("units before", x.units(2, 1), before);
            produceOnce(x, 2, 1, 31);
            due("units of " + before + " and 31", x.units(2, 1), Math.min(999, before + 31));
            due("produced", x.count(1, 0), Math.min(999, before + 31));
        }
    }

    private static void fullStockTakesNothing() {
        PacketStores x = new PacketStores();
        fillStock(x, 999);
        String full = row(x, 2, 1);
        x.rate(2, 1, 31);
        x.rate(2, 2, 1);
        x.pass(160);
        rowDue(x, 2, 1, full);
        due("produced", x.count(1, 0), 999);
        due("another kind's stock has room", x.units(2, 2), 10);
    }

    private static void aUnitTakenFromAFullStockIsProducedAgain() {
        PacketStores x = new PacketStores();
        fillStock(x, 999);
        x.wagon(0, 1, 1);
        x.load(0, 2, 1);
        produceOnce(x, 2, 1, 2);
        due("units", x.units(2, 1), 999);
        due("produced", x.count(1, 0), 1000);
    }

    private static int paidAfter(int age, int distance) {
        PacketStores x = new PacketStores();
        x.place(1, Math.min(distance, 99), Math.max(0, distance - 99));
        x.accept(1, 1);
        x.wagon(0, 0, 1);
        produceOnce(x, 0, 0, 1);
        x.load(0, 0, 1);
        for (int left = age; left > 0; left -= 2000) {
            x.pass(Math.min(left, 2000));
        }
        x.unload(0, 1, 1);
        due("money", x.sum(0), 10000 + x.sum(1));
        return x.sum(1);
    }

    private static void payFallsWithEach64th() {
        due("at once", paidAfter(0, 10), 640);
        due("63 later", paidAfter(63, 10), 640);
        due("64 later", paidAfter(64, 10), 630);
        due("127 later", paidAfter(127, 10), 630);
        due("128 later", paidAfter(128, 10), 620);
        due("3967 later", paidAfter(3967, 10), 30);
        due("3968 later", paidAfter(3968, 10), 20);
    }

    private static void payIsAtLeastTheDistance() {
        due("4031 later", paidAfter(4031, 10), 20);
        due("4032 later", paidAfter(4032, 10), 10);
        due("4095 later", paidAfter(4095, 10), 10);
        due("4096 later", paidAfter(4096, 10), 10);
        due("4160 later", paidAfter(4160, 10), 10);
        due("20000 later", paidAfter(20000, 10), 10);
    }

    private static void payOfTheNearestAndTheFarthest() {
        due("no way at all", paidAfter(0, 0), 0);
        due("no way at all, late", paidAfter(5000, 0), 0);
        due("one apart", paidAfter(0, 1), 64);
        due("198 apart", paidAfter(0, 198), 198 * 64);
        due("198 apart, late", paidAfter(5000, 198), 198);
    }

    private static void columnsAndRowsApartInEachDirection() {
        int[][] places = {{5, 5, 7, 8}, {7, 8, 5, 5}, {5, 8, 7, 5}, {7, 5, 5, 8}};
        for (int[] p : places) {
            PacketStores x = new PacketStores();
            x.place(6, p[0], p[1]);
            x.place(7, p[2], p[3]);
            x.accept(7, 1);
            x.wagon(0, 0, 1);
            produceOnce(x, 6, 0, 1);
            x.load(0, 6, 1);
            x.unload(0, 7, 1);
            due("earned", x.sum(1), 5 * 64);
        }
    }

    // ---- Terms: exceptions

    private static void noSuchStation() {
        for (int s : NO_STATIONS) {
            refused("place(" + s + ", 1, 1)", INDEX, x -> x.place(s, 1, 1));
            refused("rate(" + s + ", 0, 1)", INDEX, x -> x.rate(s, 0, 1));
            refused("accept(" + s + ", 1)", INDEX, x -> x.accept(s, 1));
            refused("make(" + s + ", 0, 1)", INDEX, x -> x.make(s, 0, 1));
            refused("load(0, " + s + ", 1)", INDEX, x -> x.load(0, s, 1));
            refused("load(0, " + s + ", 0)", INDEX, x -> x.load(0, s, 0));
            refused("unload(0, " + s + ", 1)", INDEX, x -> x.unload(0, s, 1));
            refused("unload(0, " + s + ", 0)", INDEX, x -> x.unload(0, s, 0));
        }
    }

    private static void noSuchWagon() {
        for (int w : NO_WAGONS) {
            refused("wagon(" + w + ", 0, 1)", INDEX, x -> x.wagon(w, 0, 1));
            refused("load(" + w + ", 0, 1)", INDEX, x -> x.load(w, 0, 1));
            refused("unload(" + w + ", 0, 1)", INDEX, x -> x.unload(w, 0, 1));
            refused("pour(" + w + ", 0)", INDEX, x -> x.pour(w, 0));
            refused("pour(0, " + w + ")", INDEX, x -> x.pour(0, w));
            refused("part(" + w + ", 1, 4)", INDEX, x -> x.part(w, 1, 4));
            refused("part(0, 1, " + w + ")", INDEX, x -> x.part(0, 1, w));
            refused("dump(" + w + ")", INDEX, x -> x.dump(w));
        }
    }

    private static void noSuchKind() {
        for (int k : NO_KINDS) {
            refused("rate(0, " + k + ", 1)", INDEX, x -> x.rate(0, k, 1));
            refused("make(7, " + k + ", 1)", INDEX, x -> x.make(7, k, 1));
            refused("wagon(4, " + k + ", 1)", INDEX, x -> x.wagon(4, k, 1));
        }
    }

    private static void theFirstAndTheLastAreThere() {
        for (int s = 0; s < 8; s += 7) {
            int station = s;
            taken("place(" + s + ", 1, 1)", x -> x.place(station, 1, 1));
            taken("rate(" + s + ", 0, 1)", x -> x.rate(station, 0, 1));
            taken("rate(" + s + ", 3, 1)", x -> x.rate(station, 3, 1));
            taken("accept(" + s + ", 1)", x -> x.accept(station, 1));
            taken("make(" + s + ", 0, 3)", x -> x.make(station, 0, 3));
            taken("make(" + s + ", 3, 0)", x -> x.make(station, 3, 0));
            taken("load(0, " + s + ", 1)", x -> x.load(0, station, 1));
            taken("unload(15, " + s + ", 1)", x -> x.unload(15, station, 1));
        }
        taken("wagon(0, 0, 80)", x -> x.wagon(0, 0, 80));
        taken("wagon(15, 3, 80)", x -> x.wagon(15, 3, 80));
        taken("dump(0)", x -> x.dump(0));
        taken("dump(15)", x -> x.dump(15));
        taken("pour(0, 15)", x -> {}, x -> x.pour(0, 15));
        taken("pour(15, 0)", x -> {}, x -> x.pour(15, 0));
        taken("part(0, 0, 15)", x -> {}, x -> x.part(0, 0, 15));
        taken("part(15, 0, 0)", x -> {}, x -> x.part(15, 0, 0));
    }

    private static void indexComesBeforeArgument() {
        refused("place(8, -1, 0)", INDEX, x -> x.place(8, -1, 0));
        refused("place(8, 0, 100)", INDEX, x -> x.place(8, 0, 100));
        refused("rate(8, 0, 32)", INDEX, x -> x.rate(8, 0, 32));
        refused("rate(0, 4, -1)", INDEX, x -> x.rate(0, 4, -1));
        refused("accept(8, 16)", INDEX, x -> x.accept(8, 16));
        refused("make(8, 0, 4)", INDEX, x -> x.make(8, 0, 4));
        refused("make(0, 4, -2)", INDEX, x -> x.make(0, 4, -2));
        refused("wagon(16, 0, 81)", INDEX, x -> x.wagon(16, 0, 81));
        refused("wagon(0, 4, 81)", INDEX, x -> x.wagon(0, 4, 81));
        refused("wagon(0, 4, 2), more aboard", INDEX, x -> x.wagon(0, 4, 2));
        refused("load(16, 0, -1)", INDEX, x -> x.load(16, 0, -1));
        refused("load(0, 8, -1)", INDEX, x -> x.load(0, 8, -1));
        refused("unload(16, 0, -1)", INDEX, x -> x.unload(16, 0, -1));
        refused("unload(0, 8, -1)", INDEX, x -> x.unload(0, 8, -1));
        refused("pour(16, 16)", INDEX, x -> x.pour(16, 16));
        refused("pour(-1, -1)", INDEX, x -> x.pour(-1, -1));
        refused("part(16, 0, 16)", INDEX, x -> x.part(16, 0, 16));
        refused("part(16, -1, 0)", INDEX, x -> x.part(16, -1, 0));
        refused("part(0, -1, 16)", INDEX, x -> x.part(0, -1, 16));
    }

    // ---- Promise 1

    private static void emptyAtFirst() {
        for (int where = 0; where < 24; where++) {
            PacketStores x = new PacketStores();
            for (int kind = 0; kind < 4; kind++) {
                due("units(" + where + ", " + kind + ")", x.units(where, kind), 0);
                rowDue(x, where, kind, "");
            }
        }
    }

    private static void numbersAtFirst() {
        PacketStores x = new PacketStores();
        for (int kind = 0; kind < 4; kind++) {
            for (int what = 0; what < 5; what++) {
                due("count(" + kind + ", " + what + ")", x.count(kind, what), 0);
            }
        }
        due("money", x.sum(0), 10000);
        due("earned", x.sum(1), 0);
        due("spent", x.sum(2), 0);
        due("time", x.sum(3), 0);
    }

    private static void ratesAtFirst() {
        PacketStores x = new PacketStores();
        x.pass(2000);
        for (int kind = 0; kind < 4; kind++) {
            due("produced", x.count(kind, 0), 0);
        }
    }

    private static void roomsAtFirst() {
        PacketStores x = new PacketStores();
        fillStationZero(x);
        for (int wagon = 0; wagon < 16; wagon++) {
            due("load(" + wagon + ", 0, 1)", x.load(wagon, 0, 1), 0);
        }
    }

    private static void placesAcceptedAndMadeAtFirst() {
        for (int kind = 0; kind < 4; kind++) {
            PacketStores x = new PacketStores();
            fillStationZero(x);
            x.wagon(kind, kind, 80);
            for (int station = 1; station < 8; station++) {
                x.load(kind, 0, 2);
                x.unload(kind, station, 1);
                due("none is accepted, put into stock", x.units(station, kind), 1);
                x.accept(station, 15);
                int before = x.count(0, 0) + x.count(1, 0) + x.count(2, 0) + x.count(3, 0);
                x.unload(kind, station, 1);
                int after = x.count(0, 0) + x.count(1, 0) + x.count(2, 0) + x.count(3, 0);
                due("delivered", x.count(kind, 1), station);
                due("nothing is made", after, before);
            }
            due("all are at the same place", x.sum(1), 0);
            x.place(0, 1, 2);
            x.load(kind, 0, 7);
            for (int station = 1; station < 8; station++) {
                x.unload(kind, station, 1);
                due("3 from 0 and 0, 1984 later", x.sum(1), station * 3 * (64 - 31));
            }
        }
    }

    // ---- Promises 2 to 6

    private static void columnOrRowOutside() {
        for (int bad : new int[] {-1, 100, LOW, HIGH}) {
            refused("place(7, " + bad + ", 50)", ARGUMENT, x -> x.place(7, bad, 50));
            refused("place(7, 50, " + bad + ")", ARGUMENT, x -> x.place(7, 50, bad));
            refused("place(0, " + bad + ", " + bad + ")", ARGUMENT, x -> x.place(0, bad, bad));
        }
    }

    private static void columnAndRowAtTheirEnds() {
        int[][] ends = {{0, 0, 0}, {99, 0, 99}, {0, 99, 99}, {99, 99, 198}};
        for (int[] end : ends) {
            PacketStores x = new PacketStores();
            x.place(1, 50, 50);
            x.place(1, end[0], end[1]);
            x.accept(1, 1);
            x.wagon(0, 0, 1);
            produceOnce(x, 0, 0, 1);
            x.load(0, 0, 1);
            x.unload(0, 1, 1);
            due("earned at " + end[0] + ", " + end[1], x.sum(1), end[2] * 64);
        }
    }

    private static void rateOutside() {
        for (int bad : new int[] {-1, 32, LOW, HIGH}) {
            refused("rate(0, 0, " + bad + ")", ARGUMENT, x -> x.rate(0, 0, bad));
            refused("rate(7, 3, " + bad + ")", ARGUMENT, x -> x.rate(7, 3, bad));
        }
    }

    private static void rateAtItsEnds() {
        PacketStores x = new PacketStores();
        x.rate(0, 0, 31);
        x.rate(7, 3, 31);
        x.rate(3, 2, 31);
        x.rate(3, 2, 0);
        x.pass(16);
        due("31", x.units(0, 0), 31);
        due("31 of the last", x.units(7, 3), 31);
        due("0 after 31", x.units(3, 2), 0);
    }

    private static void otherKindsAccepted() {
        for (int bad : new int[] {16, 17, 32, -1, -16, LOW, LOW + 3, HIGH, 1 << 30}) {
            refused("accept(7, " + bad + ")", ARGUMENT, x -> x.accept(7, bad));
        }
    }

    private static void noneAndAllAccepted() {
        PacketStores x = new PacketStores();
        fillStationZero(x);
        for (int kind = 0; kind < 4; kind++) {
            x.wagon(kind, kind, 2);
            x.load(kind, 0, 2);
            x.accept(1, 15);
            x.unload(kind, 1, 1);
            due("delivered when all are accepted", x.count(kind, 1), 1);
            x.accept(1, 0);
            x.unload(kind, 1, 1);
            due("delivered when none is", x.count(kind, 1), 1);
            due("in stock when none is", x.units(1, kind), 1);
        }
    }

    private static void madeIsNoKind() {
        for (int bad : new int[] {-2, 4, 1 << 30, LOW, HIGH}) {
            refused("make(7, 0, " + bad + ")", ARGUMENT, x -> x.make(7, 0, bad));
            refused("make(0, 3, " + bad + ")", ARGUMENT, x -> x.make(0, 3, bad));
        }
    }

    private static void madeIsTheFirstTheLastOrNothing() {
        PacketStores x = new PacketStores();
        x.wagon(0, 1, 80);
        x.accept(5, 2);
        produceOnce(x, 0, 1, 9);
        x.load(0, 0, 9);
        x.make(5, 1, 0);
        x.unload(0, 5, 1);
        due("kind 0 is made", x.units(5, 0), 1);
        x.make(5, 1, 3);
        x.unload(0, 5, 2);
        due("kind 3 is made", x.units(5, 3), 2);
        x.make(5, 1, NONE);
        x.unload(0, 5, 4);
        due("nothing is made", x.units(5, 0) + x.units(5, 1) + x.units(5, 2) + x.units(5, 3), 3);
        due("delivered", x.count(1, 1), 7);
    }

    private static void roomOutside() {
        for (int bad : new int[] {-1, 81, LOW, HIGH}) {
            refused("wagon(4, 1, " + bad + ")", ARGUMENT, x -> x.wagon(4, 1, bad));
            refused("wagon(0, 0, " + bad + ")", ARGUMENT, x -> x.wagon(0, 0, bad));
        }
    }

    private static void roomAtItsEnds() {
        PacketStores x = new PacketStores();
        fillStationZero(x);
        x.wagon(0, 1, 80);
        due("a room of 80", x.load(0, 0, HIGH), 80);
        x.wagon(1, 1, 80);
        x.wagon(1, 1, 0);
        due("a room of 0", x.load(1, 0, HIGH), 0);
        x.wagon(1, 1, 1);
        due("a room of 1", x.load(1, 0, HIGH), 1);
    }

    private static void moreUnitsAboardThanRoom() {
        refused("wagon(0, 0, 15) with 16 aboard", ARGUMENT, PacketStoresEdges::eightPackets, x -> x.wagon(0, 0, 15));
        refused("wagon(0, 0, 0) with 16 aboard", ARGUMENT, PacketStoresEdges::eightPackets, x -> x.wagon(0, 0, 0));
        PacketStores x = after(PacketStoresEdges::eightPackets);
        x.wagon(0, 0, 16);
        rowDue(x, 8, 0, EIGHT);
        produceOnce(x, 0, 0, 1);
        due("just enough room is full", x.load(0, 0, 1), 0);
    }

    private static void unitsOfAnotherKindAboard() {
        refused("wagon(0, 1, 80) with kind 0", ARGUMENT, PacketStoresEdges::eightPackets, x -> x.wagon(0, 1, 80));
        Run oneLeft = x -> {
            eightPackets(x);
            x.unload(0, 1, 15);
        };
        refused("wagon(0, 3, 80) with one of kind 0", ARGUMENT, oneLeft, x -> x.wagon(0, 3, 80));
        PacketStores x = after(oneLeft);
        x.unload(0, 1, 1);
        x.wagon(0, 3, 80);
        produceOnce(x, 0, 3, 2);
        due("an emptied wagon takes another kind", x.load(0, 0, 9), 2);
        due("of kind 3", x.count(3, 4), 2);
        due("of kind 0", x.count(0, 4), 0);
    }

    // ---- Promise 7

    private static void passOutside() {
        for (int bad : new int[] {-1, 2001, LOW, HIGH}) {
            refused("pass(" + bad + ")", ARGUMENT, x -> x.pass(bad));
        }
    }

    private static void passAtItsEnds() {
        PacketStores x = new PacketStores();
        x.rate(1, 2, 3);
        due("pass(0)", x.pass(0), 0);
        due("nothing at time 0", x.units(1, 2), 0);
        due("pass(2000)", x.pass(2000), 2000);
        due("produced 125 times", x.units(1, 2), 375);
        due("pass(0) on a multiple", x.pass(0), 2000);
        due("nothing more", x.units(1, 2), 375);
        due("time", x.sum(3), 2000);
    }

    private static void multiplesOfSixteen() {
        PacketStores x = new PacketStores();
        x.rate(4, 0, 1);
        for (int time = 1; time <= 65; time++) {
            due("pass(1)", x.pass(1), time);
            due("units at " + time, x.units(4, 0), time / 16);
        }
        due("pass(14)", x.pass(14), 79);
        due("one before", x.units(4, 0), 4);
        due("pass(17)", x.pass(17), 96);
        due("two at once", x.units(4, 0), 6);
        rowDue(x, 4, 0, "4*1@16 4*1@32 4*1@48 4*1@64 4*1@80 4*1@96");
    }

    private static void producedAsFarAsTheyMay() {
        PacketStores x = new PacketStores();
        fillStock(x, 998);
        x.rate(2, 1, 31);
        x.rate(2, 0, 1);
        x.rate(2, 2, 1);
        x.rate(3, 1, 1);
        x.pass(16);
        due("the stock is full", x.units(2, 1), 999);
        due("the kind before", x.units(2, 0), 1);
        due("the kind behind", x.units(2, 2), 1);
        due("the station behind", x.units(3, 1), 1);
        due("produced", x.count(1, 0), 1000);
    }

    // ---- Promises 8 and 9

    private static void loadBelowZero() {
        for (int bad : new int[] {-1, -80, LOW}) {
            refused("load(0, 0, " + bad + ")", ARGUMENT, x -> x.load(0, 0, bad));
            refused("load(3, 6, " + bad + ") of nothing", ARGUMENT, x -> x.load(3, 6, bad));
        }
    }

    private static void loadNone() {
        PacketStores x = new PacketStores();
        x.wagon(0, 0, 80);
        produceOnce(x, 0, 0, 5);
        due("load(0, 0, 0)", x.load(0, 0, 0), 0);
        rowDue(x, 0, 0, "0*5@16");
        rowDue(x, 8, 0, "");
    }

    private static void loadAsFarAsThereAreSome() {
        PacketStores x = new PacketStores();
        x.wagon(0, 0, 80);
        due("of an empty stock", x.load(0, 0, HIGH), 0);
        produceOnce(x, 0, 0, 5);
        due("one less than all", x.load(0, 0, 4), 4);
        due("the last one", x.load(0, 0, 2), 1);
        due("none is left", x.load(0, 0, 1), 0);
        rowDue(x, 0, 0, "");
        rowDue(x, 8, 0, "0*5@16");
    }

    private static void loadAsFarAsThereIsRoom() {
        PacketStores x = new PacketStores();
        fillStock(x, 200);
        x.wagon(0, 1, 80);
        due("one less than the room", x.load(0, 2, 79), 79);
        due("into the last room", x.load(0, 2, 2), 1);
        due("into a full wagon", x.load(0, 2, HIGH), 0);
        due("aboard", x.units(8, 0), 80);
        due("in stock", x.units(2, 1), 120);
        x.wagon(1, 1, 0);
        due("into no room", x.load(1, 2, HIGH), 0);
    }

    private static void loadOfTheWagonsKindAlone() {
        PacketStores x = new PacketStores();
        x.wagon(0, 2, 80);
        x.rate(0, 1, 9);
        x.rate(0, 3, 9);
        x.pass(16);
        due("there are others alone", x.load(0, 0, 9), 0);
        due("kind 1", x.units(0, 1), 9);
        due("kind 3", x.units(0, 3), 9);
    }

    private static void unloadBelowZero() {
        for (int bad : new int[] {-1, -80, LOW}) {
            refused("unload(0, 7, " + bad + ") accepted", ARGUMENT, x -> x.unload(0, 7, bad));
            refused("unload(0, 3, " + bad + ") into stock", ARGUMENT, x -> x.unload(0, 3, bad));
            refused("unload(3, 3, " + bad + ") of nothing", ARGUMENT, x -> x.unload(3, 3, bad));
        }
    }

    private static void unloadNone() {
        PacketStores x = after(PacketStoresEdges::eightPackets);
        x.place(1, 1, 1);
        due("into stock", x.unload(0, 1, 0), 0);
        x.accept(1, 1);
        x.make(1, 0, 1);
        due("delivered", x.unload(0, 1, 0), 0);
        rowDue(x, 8, 0, EIGHT);
        due("earned", x.sum(1), 0);
        due("count of delivered", x.count(0, 1), 0);
        due("made", x.count(1, 0), 0);
        due("stock", x.units(1, 0), 0);
    }

    private static void unloadMoreThanThereAre() {
        PacketStores x = after(PacketStoresEdges::eightPackets);
        due("into stock", x.unload(0, 1, 17), 16);
        due("of an empty wagon", x.unload(0, 1, HIGH), 0);
        rowDue(x, 1, 0, EIGHT);
        PacketStores y = after(PacketStoresEdges::eightPackets);
        y.accept(1, 1);
        due("delivered", y.unload(0, 1, HIGH), 16);
        due("of an empty wagon, accepted", y.unload(0, 1, 1), 0);
        due("count of delivered", y.count(0, 1), 16);
        due("stock", y.units(1, 0), 0);
    }

    /** Station 2's stock of kind 1 has so many; wagon 0 has 20 units of kind 1 from station 5. */
    private static PacketStores twentyBesideStock(int inStock) {
        PacketStores x = new PacketStores();
        fillStock(x, inStock);
        x.wagon(0, 1, 20);
        produceOnce(x, 5, 1, 20);
        x.load(0, 5, 20);
        return x;
    }

    private static void unloadAsFarAsThereIsRoom() {
        int[][] cases = {{978, 20}, {979, 20}, {980, 19}, {998, 1}, {999, 0}};
        for (int[] c : cases) {
            PacketStores x = twentyBesideStock(c[0]);
            due("unload beside " + c[0], x.unload(0, 2, HIGH), c[1]);
            due("stock", x.units(2, 1), c[0] + c[1]);
            due("aboard", x.units(8, 1), 20 - c[1]);
            due("delivered", x.count(1, 1), 0);
            due("earned", x.sum(1), 0);
        }
    }

    private static void deliveredNeedsNoRoom() {
        PacketStores x = twentyBesideStock(999);
        x.place(5, 2, 0);
        x.accept(2, 2);
        due("unload", x.unload(0, 2, 20), 20);
        due("delivered", x.count(1, 1), 20);
        due("earned", x.sum(1), 20 * 2 * 64);
        due("stock", x.units(2, 1), 999);
    }

    private static void madeAsFarAsItMay() {
        int[][] cases = {{979, 20}, {980, 19}, {998, 1}, {999, 0}};
        for (int[] c : cases) {
            PacketStores x = new PacketStores();
            fillStock(x, c[0]);
            x.wagon(0, 0, 20);
            produceOnce(x, 5, 0, 20);
            x.load(0, 5, 20);
            x.place(5, 1, 0);
            x.accept(2, 1);
            x.make(2, 0, 1);
            due("unload beside " + c[0], x.unload(0, 2, 20), 20);
            due("delivered", x.count(0, 1), 20);
            due("earned", x.sum(1), 20 * 64);
            due("made", x.count(1, 0), c[0] + c[1]);
            due("stock", x.units(2, 1), c[0] + c[1]);
        }
    }

    private static void nothingIsMadeOfWhatIsNotAccepted() {
        PacketStores x = after(PacketStoresEdges::eightPackets);
        x.accept(1, 14);
        x.make(1, 0, 1);
        x.unload(0, 1, 16);
        due("made", x.count(1, 0), 0);
        due("stock", x.units(1, 0), 16);
    }

    private static void madeIsBornNowAndThere() {
        PacketStores x = after(PacketStoresEdges::eightPackets);
        x.accept(1, 1);
        x.make(1, 0, 2);
        x.pass(5);
        x.unload(0, 1, 3);
        rowDue(x, 1, 2, "1*3@133");
    }

    // ---- Promises 10 and 11

    private static void pourIntoItself() {
        for (int wagon : new int[] {0, 3, 9, 15}) {
            refused("pour(" + wagon + ", " + wagon + ")", ARGUMENT, x -> x.pour(wagon, wagon));
        }
    }

    private static void pourOfDifferentKinds() {
        refused("pour(2, 0)", ARGUMENT, x -> x.pour(2, 0));
        refused("pour(0, 2)", ARGUMENT, x -> x.pour(0, 2));
        Run empty = x -> {
            x.wagon(0, 1, 80);
            x.wagon(1, 2, 80);
        };
        refused("pour(0, 1), both empty", ARGUMENT, empty, x -> x.pour(0, 1));
    }

    /** Wagon 0 has eight packets, 16 units; wagon 1 has such a room and three units of station 5. */
    private static void threeBesideEight(PacketStores x, int room) {
        eightPackets(x);
        x.wagon(1, 0, room);
        produceOnce(x, 5, 0, 3);
        x.load(1, 5, 3);
    }

    private static void pourWithoutRoomForAll() {
        refused("16 into 15", ARGUMENT, x -> threeBesideEight(x, 18), x -> x.pour(1, 0));
        refused("16 into none", ARGUMENT, x -> threeBesideEight(x, 3), x -> x.pour(1, 0));
        PacketStores x = after(y -> threeBesideEight(y, 19));
        x.pour(1, 0);
        due("16 into 16", x.units(9, 0), 19);
        due("none is left", x.units(8, 0), 0);
        rowDue(x, 8, 0, "");
        rowDue(x, 9, 0, "5*3@144 0*2@16 0*2@32 0*2@48 0*2@64 0*2@80 0*2@96 0*4@112");
    }

    private static void pourOfNothing() {
        PacketStores x = after(PacketStoresEdges::eightPackets);
        x.wagon(1, 0, 0);
        x.pour(0, 1);
        rowDue(x, 8, 0, EIGHT);
        x.wagon(0, 0, 16);
        x.pour(0, 1);
        rowDue(x, 8, 0, EIGHT);
        x.pour(2, 1);
        due("nothing into no room", x.units(10, 0), 0);
    }

    private static void pourBehindEightPackets() {
        PacketStores x = after(y -> threeBesideEight(y, 3));
        x.pour(0, 1);
        rowDue(x, 8, 0, EIGHT.replace("0*2@128", "0*5@128"));
        rowDue(x, 9, 0, "");
    }

    private static void pourTogetherWhatWasParted() {
        PacketStores x = after(PacketStoresEdges::eightPackets);
        x.wagon(1, 0, 80);
        x.part(0, 7, 1);
        x.pour(0, 1);
        rowDue(x, 8, 0, EIGHT);
    }

    /** Wagon 0 has eight packets, wagons 1 and 2 have its kind and room for 80, and are empty. */
    private static void emptyBesideEight(PacketStores x) {
        eightPackets(x);
        x.wagon(1, 0, 80);
        x.wagon(2, 0, 80);
    }

    private static void partBelowZero() {
        for (int bad : new int[] {-1, -16, LOW}) {
            refused("part(0, " + bad + ", 1)", ARGUMENT, PacketStoresEdges::emptyBesideEight, x -> x.part(0, bad, 1));
            refused("part(1, " + bad + ", 2) of nothing", ARGUMENT, PacketStoresEdges::emptyBesideEight, x -> x.part(1, bad, 2));
        }
    }

    private static void partIntoItself() {
        refused("part(0, 3, 0)", ARGUMENT, PacketStoresEdges::emptyBesideEight, x -> x.part(0, 3, 0));
        refused("part(0, 16, 0)", ARGUMENT, PacketStoresEdges::emptyBesideEight, x -> x.part(0, 16, 0));
        refused("part(1, 0, 1), empty", ARGUMENT, PacketStoresEdges::emptyBesideEight, x -> x.part(1, 0, 1));
    }

    private static void partIntoAWagonWithUnits() {
        Run oneUnit = x -> {
            emptyBesideEight(x);
            produceOnce(x, 5, 0, 1);
            x.load(1, 5, 1);
        };
        refused("part(0, 3, 1)", ARGUMENT, oneUnit, x -> x.part(0, 3, 1));
        refused("part(0, 16, 1), none would go", ARGUMENT, oneUnit, x -> x.part(0, 16, 1));
        refused("part(0, HIGH, 1), none would go", ARGUMENT, oneUnit, x -> x.part(0, HIGH, 1));
        refused("part(2, 0, 1) of nothing", ARGUMENT, oneUnit, x -> x.part(2, 0, 1));
    }

    private static void partIntoAnotherKind() {
        Run otherKind = x -> {
            emptyBesideEight(x);
            x.wagon(1, 3, 80);
        };
        refused("part(0, 3, 1)", ARGUMENT, otherKind, x -> x.part(0, 3, 1));
        refused("part(0, 16, 1), none would go", ARGUMENT, otherKind, x -> x.part(0, 16, 1));
        refused("part(2, 0, 1) of nothing", ARGUMENT, otherKind, x -> x.part(2, 0, 1));
    }

    private static void partWithoutRoomForAll() {
        Run roomForFive = x -> {
            emptyBesideEight(x);
            x.wagon(1, 0, 5);
        };
        refused("6 into 5", ARGUMENT, roomForFive, x -> x.part(0, 10, 1));
        refused("16 into 5", ARGUMENT, roomForFive, x -> x.part(0, 0, 1));
        PacketStores x = after(roomForFive);
        x.part(0, 11, 1);
        rowDue(x, 8, 0, "0*2@16 0*2@32 0*2@48 0*2@64 0*2@80 0*1@96");
        rowDue(x, 9, 0, "0*1@96 0*2@112 0*2@128");
    }

    private static void partWhereNoneStays() {
        PacketStores x = after(PacketStoresEdges::emptyBesideEight);
        x.part(0, 0, 1);
        rowDue(x, 8, 0, "");
        due("units", x.units(8, 0), 0);
        rowDue(x, 9, 0, EIGHT);
        x.part(0, 0, 2);
        due("nothing of nothing", x.units(10, 0), 0);
    }

    private static void partWhereAllStay() {
        for (int n : new int[] {16, 17, 80, 81, HIGH}) {
            PacketStores x = after(PacketStoresEdges::emptyBesideEight);
            x.wagon(1, 0, 0);
            x.part(0, n, 1);
            rowDue(x, 8, 0, EIGHT);
            due("units with n " + n, x.units(8, 0), 16);
            due("none goes", x.units(9, 0), 0);
        }
    }

    private static void partInAndBetweenPackets() {
        PacketStores x = after(PacketStoresEdges::emptyBesideEight);
        x.part(0, 15, 1);
        rowDue(x, 8, 0, EIGHT.replace("0*2@128", "0*1@128"));
        rowDue(x, 9, 0, "0*1@128");
        PacketStores y = after(PacketStoresEdges::emptyBesideEight);
        y.part(0, 14, 1);
        rowDue(y, 8, 0, EIGHT.replace(" 0*2@128", ""));
        rowDue(y, 9, 0, "0*2@128");
        PacketStores z = after(PacketStoresEdges::emptyBesideEight);
        z.part(0, 1, 1);
        rowDue(z, 8, 0, "0*1@16");
        rowDue(z, 9, 0, EIGHT.replace("0*2@16", "0*1@16"));
    }

    // ---- Promises 12 and 13

    private static void dumpOfNothing() {
        PacketStores x = new PacketStores();
        due("dump(0)", x.dump(0), 0);
        due("dump(15)", x.dump(15), 0);
        due("dumped", x.count(0, 2), 0);
    }

    private static void dumpOfAFullWagon() {
        PacketStores x = new PacketStores();
        fillStock(x, 200);
        x.wagon(15, 1, 80);
        x.load(15, 2, 80);
        due("dump(15)", x.dump(15), 80);
        due("dumped", x.count(1, 2), 80);
        due("units", x.units(23, 1), 0);
        rowDue(x, 23, 1, "");
        due("dump(15) again", x.dump(15), 0);
        due("dumped still", x.count(1, 2), 80);
        due("room again", x.load(15, 2, 81), 80);
    }

    private static void spendNotDone(int n) {
        if (!allThatShows(PacketStoresEdges::busy).equals(allThatShows(x -> {
            busy(x);
            due("spend(" + n + ")", x.spend(n), false);
        }))) {
            report("spend(" + n + ") changed something");
        }
    }

    private static void spendBelowZero() {
        for (int n : new int[] {-1, -10000, LOW}) {
            spendNotDone(n);
        }
    }

    private static void spendAboveTheMoney() {
        int money = after(PacketStoresEdges::busy).sum(0);
        for (int n : new int[] {money + 1, 2_000_000_000, HIGH}) {
            spendNotDone(n);
        }
    }

    private static void spendAllTheMoney() {
        PacketStores x = new PacketStores();
        due("spend(10000)", x.spend(10000), true);
        due("money", x.sum(0), 0);
        due("spent", x.sum(2), 10000);
        due("spend(1)", x.spend(1), false);
        due("spent still", x.sum(2), 10000);
    }

    private static void spendNothing() {
        PacketStores x = new PacketStores();
        due("spend(0)", x.spend(0), true);
        due("money", x.sum(0), 10000);
        due("spent", x.sum(2), 0);
        x.spend(10000);
        due("spend(0) without money", x.spend(0), true);
        due("earned", x.sum(1), 0);
    }

    // ---- Promises 14 to 17

    /** The last station and the last wagon have cargo too: five and four units of kind 3. */
    private static void lastOnesToo(PacketStores x) {
        eightPackets(x);
        produceOnce(x, 7, 3, 9);
        x.wagon(15, 3, 4);
        x.load(15, 7, 4);
    }

    private static void packetNoSuchPlace() {
        PacketStores x = after(PacketStoresEdges::lastOnesToo);
        for (int where : new int[] {-1, 24, 1 << 30, LOW, LOW + 8, HIGH}) {
            for (int what = 0; what < 3; what++) {
                due("packet(" + where + ", 3, 0, " + what + ")", x.packet(where, 3, 0, what), NONE);
                due("packet(" + where + ", 0, 0, " + what + ")", x.packet(where, 0, 0, what), NONE);
            }
        }
        due("the last station", x.packet(7, 3, 0, 1), 5);
        due("the first wagon", x.packet(8, 3, 0, 1), 2);
        due("the last wagon", x.packet(23, 3, 0, 1), 4);
    }

    private static void packetNoSuchKindOfAStation() {
        PacketStores x = after(PacketStoresEdges::lastOnesToo);
        for (int kind : NO_KINDS) {
            due("packet(7, " + kind + ", 0, 0)", x.packet(7, kind, 0, 0), NONE);
            due("packet(6, " + kind + ", 0, 1)", x.packet(6, kind, 0, 1), NONE);
            due("packet(0, " + kind + ", 0, 2)", x.packet(0, kind, 0, 2), NONE);
        }
    }

    private static void packetOfAWagonWhateverTheKind() {
        PacketStores x = after(PacketStoresEdges::lastOnesToo);
        for (int kind : new int[] {0, 1, 2, 3, 4, -1, 1 << 30, LOW, HIGH}) {
            due("origin, kind " + kind, x.packet(23, kind, 0, 0), 7);
            due("units, kind " + kind, x.packet(23, kind, 0, 1), 4);
            due("born, kind " + kind, x.packet(23, kind, 0, 2), 144);
            due("the first wagon's last packet, kind " + kind, x.packet(8, kind, 7, 2), 128);
            due("an empty wagon, kind " + kind, x.packet(9, kind, 0, 1), NONE);
        }
    }

    private static void packetNoSuchJ() {
        PacketStores x = after(PacketStoresEdges::lastOnesToo);
        for (int j : new int[] {-1, 8, 9, 1 << 30, LOW, HIGH}) {
            for (int what = 0; what < 3; what++) {
                due("packet(8, 0, " + j + ", " + what + ")", x.packet(8, 0, j, what), NONE);
                due("packet(7, 3, " + j + ", " + what + ")", x.packet(7, 3, j, what), NONE);
            }
        }
        due("the last of eight", x.packet(8, 0, 7, 1), 2);
        for (int what = 0; what < 3; what++) {
            due("one behind the only one", x.packet(7, 3, 1, what), NONE);
            due("of an emptied stock", x.packet(0, 0, 0, what), NONE);
            due("of an empty wagon", x.packet(9, 0, 0, what), NONE);
        }
    }

    private static void packetThatWentIsNoMore() {
        PacketStores x = after(PacketStoresEdges::eightPackets);
        x.unload(0, 1, 15);
        due("the last one", x.packet(8, 0, 0, 2), 128);
        due("what lay behind", x.packet(8, 0, 1, 1), NONE);
        x.dump(0);
        due("dumped", x.packet(8, 0, 0, 1), NONE);
    }

    private static void packetAnotherWhat() {
        PacketStores x = after(PacketStoresEdges::lastOnesToo);
        for (int what : new int[] {-1, 3, 4, LOW, HIGH}) {
            due("packet(7, 3, 0, " + what + ")", x.packet(7, 3, 0, what), NONE);
            due("packet(23, 3, 0, " + what + ")", x.packet(23, 3, 0, what), NONE);
        }
    }

    private static void unitsNoneSuch() {
        PacketStores x = after(PacketStoresEdges::lastOnesToo);
        for (int where : new int[] {-1, 24, 1 << 30, LOW, LOW + 8, HIGH}) {
            due("units(" + where + ", 3)", x.units(where, 3), NONE);
            due("units(" + where + ", 0)", x.units(where, 0), NONE);
        }
        for (int kind : NO_KINDS) {
            due("units(7, " + kind + ")", x.units(7, kind), NONE);
            due("units(6, " + kind + ")", x.units(6, kind), NONE);
            due("units(0, " + kind + ")", x.units(0, kind), NONE);
            due("units(8, " + kind + ")", x.units(8, kind), 16);
            due("units(23, " + kind + ")", x.units(23, kind), 4);
        }
        due("the last station", x.units(7, 3), 5);
    }

    private static void unitsOfEmptyRows() {
        PacketStores x = after(PacketStoresEdges::lastOnesToo);
        due("an emptied stock", x.units(0, 0), 0);
        due("a stock that never had any", x.units(3, 2), 0);
        due("a wagon that never had any", x.units(9, 0), 0);
        x.dump(15);
        due("a dumped wagon", x.units(23, 3), 0);
    }

    private static void countAnotherKind() {
        PacketStores x = after(PacketStoresEdges::busy);
        for (int kind : NO_KINDS) {
            for (int what = 0; what < 5; what++) {
                due("count(" + kind + ", " + what + ")", x.count(kind, what), NONE);
            }
        }
    }

    private static void countAnotherWhat() {
        PacketStores x = after(PacketStoresEdges::busy);
        for (int kind = 0; kind < 4; kind++) {
            for (int what : new int[] {-1, 5, 6, LOW, HIGH}) {
                due("count(" + kind + ", " + what + ")", x.count(kind, what), NONE);
            }
        }
    }

    private static void countOfTheFirstAndTheLast() {
        PacketStores x = new PacketStores();
        x.rate(0, 0, 3);
        x.rate(7, 0, 4);
        x.rate(7, 3, 5);
        x.pass(16);
        x.wagon(0, 0, 1);
        x.wagon(15, 0, 2);
        x.load(0, 0, 1);
        x.load(15, 7, 2);
        due("in stocks", x.count(0, 3), 4);
        due("in wagons", x.count(0, 4), 3);
        due("kind 3 in stocks", x.count(3, 3), 5);
        due("kind 3 in wagons", x.count(3, 4), 0);
        due("produced", x.count(0, 0), 7);
    }

    private static void sumAnotherWhat() {
        PacketStores x = after(PacketStoresEdges::busy);
        for (int what : new int[] {-1, 4, 5, LOW, HIGH}) {
            due("sum(" + what + ")", x.sum(what), NONE);
        }
        due("time, the last", x.sum(3), 40);
    }

    private static void edge(String name, Test test) {
        sentence = name;
        edges++;
        try {
            test.run();
        } catch (RuntimeException e) {
            report("threw " + e);
        }
    }

    private static void edgesOfTerms() {
        edge("Terms: ROWS of at most 8", PacketStoresEdges::atMostEightPackets);
        edge("Terms: if the last packet has the same origin and the same time", PacketStoresEdges::sameOriginAndSameTime);
        edge("Terms: .. the same origin, another time", PacketStoresEdges::sameOriginAnotherTime);
        edge("Terms: .. another origin, the same time", PacketStoresEdges::anotherOriginSameTime);
        edge("Terms: .. the last packet, no other", PacketStoresEdges::onlyTheLastPacketCounts);
        edge("Terms: if there are 8, the last one becomes one more", PacketStoresEdges::ofEightTheLastWhateverItsOrigin);
        edge("Terms: .. and if there are 7 again, a new one comes", PacketStoresEdges::ofEightOneIsTakenFirst);
        edge("Terms: the first packet goes with its last unit", PacketStoresEdges::packetGoesWithItsLastUnit);
        edge("Terms: so many units, at least one", PacketStoresEdges::packetHasAtLeastOneUnit);
        edge("Terms: a STOCK of at most 999 units", PacketStoresEdges::stockStaysAtMost999);
        edge("Terms: only if stocks stay at most 999", PacketStoresEdges::fullStockTakesNothing);
        edge("Terms: .. and as soon as they do", PacketStoresEdges::aUnitTakenFromAFullStockIsProducedAgain);
        edge("Terms: 64 less a 64th (cut) of the time", PacketStoresEdges::payFallsWithEach64th);
        edge("Terms: the greater of 1 and that", PacketStoresEdges::payIsAtLeastTheDistance);
        edge("Terms: the distance, 0 .. 198", PacketStoresEdges::payOfTheNearestAndTheFarthest);
        edge("Terms: columns and rows apart, added", PacketStoresEdges::columnsAndRowsApartInEachDirection);
        edge("Terms: no such station", PacketStoresEdges::noSuchStation);
        edge("Terms: no such wagon", PacketStoresEdges::noSuchWagon);
        edge("Terms: no such kind", PacketStoresEdges::noSuchKind);
        edge("Terms: stations 0 .. 7, wagons 0 .. 15, kinds 0 .. 3", PacketStoresEdges::theFirstAndTheLastAreThere);
        edge("Terms: exceptions, in this order", PacketStoresEdges::indexComesBeforeArgument);
    }

    private static void edgesOfSettings() {
        edge("Promise 1: rows are empty", PacketStoresEdges::emptyAtFirst);
        edge("Promise 1: TIME 0, MONEY 10,000, counts 0", PacketStoresEdges::numbersAtFirst);
        edge("Promise 1: rates 0", PacketStoresEdges::ratesAtFirst);
        edge("Promise 1: a ROOM of 0", PacketStoresEdges::roomsAtFirst);
        edge("Promise 1: places 0 and 0, none accepted, nothing made", PacketStoresEdges::placesAcceptedAndMadeAtFirst);
        edge("Promise 2: one is not 0 .. 99", PacketStoresEdges::columnOrRowOutside);
        edge("Promise 2: 0 and 99", PacketStoresEdges::columnAndRowAtTheirEnds);
        edge("Promise 3: it is not 0 .. 31", PacketStoresEdges::rateOutside);
        edge("Promise 3: 0 and 31", PacketStoresEdges::rateAtItsEnds);
        edge("Promise 4: there are others than 0 .. 3", PacketStoresEdges::otherKindsAccepted);
        edge("Promise 4: none and all", PacketStoresEdges::noneAndAllAccepted);
        edge("Promise 5: the second one is none, and not NONE", PacketStoresEdges::madeIsNoKind);
        edge("Promise 5: another kind is made, or nothing (NONE)", PacketStoresEdges::madeIsTheFirstTheLastOrNothing);
        edge("Promise 6: room is not 0 .. 80", PacketStoresEdges::roomOutside);
        edge("Promise 6: 0 and 80", PacketStoresEdges::roomAtItsEnds);
        edge("Promise 6: there are more units aboard", PacketStoresEdges::moreUnitsAboardThanRoom);
        edge("Promise 6: or some of another kind", PacketStoresEdges::unitsOfAnotherKindAboard);
        edge("Promise 7: n is not 0 .. 2000", PacketStoresEdges::passOutside);
        edge("Promise 7: 0 and 2000", PacketStoresEdges::passAtItsEnds);
        edge("Promise 7: whenever it is a multiple of 16", PacketStoresEdges::multiplesOfSixteen);
        edge("Promise 7: as far as they may be", PacketStoresEdges::producedAsFarAsTheyMay);
    }

    private static void edgesOfMoving() {
        edge("Promise 8: n is below 0", PacketStoresEdges::loadBelowZero);
        edge("Promise 8: up to 0", PacketStoresEdges::loadNone);
        edge("Promise 8: as far as there are some", PacketStoresEdges::loadAsFarAsThereAreSome);
        edge("Promise 8: as far as there is room", PacketStoresEdges::loadAsFarAsThereIsRoom);
        edge("Promise 8: of the wagon's kind", PacketStoresEdges::loadOfTheWagonsKindAlone);
        edge("Promise 9: n is below 0", PacketStoresEdges::unloadBelowZero);
        edge("Promise 9: up to 0", PacketStoresEdges::unloadNone);
        edge("Promise 9: up to n, and there are fewer", PacketStoresEdges::unloadMoreThanThereAre);
        edge("Promise 9: as far as there is room", PacketStoresEdges::unloadAsFarAsThereIsRoom);
        edge("Promise 9: if that accepts the kind", PacketStoresEdges::deliveredNeedsNoRoom);
        edge("Promise 9: one is produced there (as far as it may be)", PacketStoresEdges::madeAsFarAsItMay);
        edge("Promise 9: else each is put behind the stock", PacketStoresEdges::nothingIsMadeOfWhatIsNotAccepted);
        edge("Promise 9: produced there, origin the station, born TIME", PacketStoresEdges::madeIsBornNowAndThere);
        edge("Promise 10: they are the same", PacketStoresEdges::pourIntoItself);
        edge("Promise 10: of different kinds", PacketStoresEdges::pourOfDifferentKinds);
        edge("Promise 10: a has no room for all", PacketStoresEdges::pourWithoutRoomForAll);
        edge("Promise 10: all units of b, none", PacketStoresEdges::pourOfNothing);
        edge("Promise 10: put aboard a, which has 8 packets", PacketStoresEdges::pourBehindEightPackets);
        edge("Promise 10: in their order", PacketStoresEdges::pourTogetherWhatWasParted);
        edge("Promise 11: n is below 0", PacketStoresEdges::partBelowZero);
        edge("Promise 11: they are the same", PacketStoresEdges::partIntoItself);
        edge("Promise 11: b has units", PacketStoresEdges::partIntoAWagonWithUnits);
        edge("Promise 11: another kind", PacketStoresEdges::partIntoAnotherKind);
        edge("Promise 11: or no room for all", PacketStoresEdges::partWithoutRoomForAll);
        edge("Promise 11: the first 0 stay", PacketStoresEdges::partWhereNoneStays);
        edge("Promise 11: the first n stay, and there are no more", PacketStoresEdges::partWhereAllStay);
        edge("Promise 11: the others are put aboard b, in their order", PacketStoresEdges::partInAndBetweenPackets);
        edge("Promise 12: all units, none", PacketStoresEdges::dumpOfNothing);
        edge("Promise 12: all units, a full wagon", PacketStoresEdges::dumpOfAFullWagon);
    }

    private static void edgesOfAsking() {
        edge("Promise 13: false if n is below 0", PacketStoresEdges::spendBelowZero);
        edge("Promise 13: false if n is above the money", PacketStoresEdges::spendAboveTheMoney);
        edge("Promise 13: true if n is the money", PacketStoresEdges::spendAllTheMoney);
        edge("Promise 13: true if n is 0", PacketStoresEdges::spendNothing);
        edge("Promise 14: NONE if there is none such, where", PacketStoresEdges::packetNoSuchPlace);
        edge("Promise 14: NONE if there is none such, kind", PacketStoresEdges::packetNoSuchKindOfAStation);
        edge("Promise 14: aboard wagon where - 8, whatever the kind", PacketStoresEdges::packetOfAWagonWhateverTheKind);
        edge("Promise 14: NONE if there is none such, j", PacketStoresEdges::packetNoSuchJ);
        edge("Promise 14: NONE if there is none such any more", PacketStoresEdges::packetThatWentIsNoMore);
        edge("Promise 14: NONE for another what", PacketStoresEdges::packetAnotherWhat);
        edge("Promise 15: NONE if there is none such", PacketStoresEdges::unitsNoneSuch);
        edge("Promise 15: 0 of an empty row", PacketStoresEdges::unitsOfEmptyRows);
        edge("Promise 16: NONE for another kind", PacketStoresEdges::countAnotherKind);
        edge("Promise 16: NONE for another what", PacketStoresEdges::countAnotherWhat);
        edge("Promise 16: lies in stocks and in wagons", PacketStoresEdges::countOfTheFirstAndTheLast);
        edge("Promise 17: NONE for another what", PacketStoresEdges::sumAnotherWhat);
    }

    public static void main(String[] args) {
        edgesOfTerms();
        edgesOfSettings();
        edgesOfMoving();
        edgesOfAsking();
        System.out.println(wrong == 0 ? "all " + edges + " edges are as due" : wrong + " answers are not as due");
        if (wrong != 0) {
            System.exit(1);
        }
    }
}
