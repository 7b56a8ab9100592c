/**
 * One test for each promise of the document: ordinary inputs, and some of the edges and wrong inputs,
 * of which PacketStoresEdges has all. No object gets more than the 512 calls that are promised.
 */
public final class PacketStoresPromises {
    private static final String INDEX = "IndexOutOfBoundsException";
    private static final String ARGUMENT = "IllegalArgumentException";
    private static final int LOW = Integer.MIN_VALUE;
    private static final int HIGH = Integer.MAX_VALUE;

    private static int wrong = 0;
    private static String test = "";

    private interface Call {
        void run();
    }

    private static void due(String call, long got, long want) {
        if (got != want) {
            wrong++;
            System.out.println(test + ": " + call + " answered " + got + ", due is " + want);
        }
    }

    private static void due(String call, boolean got, boolean want) {
        due(call, got ? 1 : 0, want ? 1 : 0);
    }

    private static void throwsDue(String call, String want, Call c) {
        String got = "nothing";
        try {
            c.run();
        } catch (RuntimeException e) {
            got = e.getClass().getSimpleName();
        }
        if (!got.equals(want)) {
            wrong++;
            System.out.println(test + ": " + call + " threw " + got + ", due is " + want);
        }
    }

    /** A row as origin*units@born for each packet. */
    private static String row(PacketStores x, int where, int kind) {
        StringBuilder s = new StringBuilder();
        for (int j = 0; j < 9; j++) {
            if (x.packet(where, kind, j, 1) != PacketStores.NONE) {
                s.append(' ').append(x.packet(where, kind, j, 0));
                s.append('*').append(x.packet(where, kind, j, 1));
                s.append('@').append(x.packet(where, kind, j, 2));
            }
        }
        return s.toString().trim();
    }

    private static void rowDue(PacketStores x, int where, int kind, String want) {
        String got = row(x, where, kind);
        if (!got.equals(want)) {
            wrong++;
            System.out.println(test + ": row " + where + ", " + kind + " is [" + got + "], due is [" + want + "]");
        }
    }

    /** Station s produces the rate of a kind once, at the next multiple of 16, and nothing after. */
    private static void produceOnce(PacketStores x, int station, int kind, int rate) {
        x.rate(station, kind, rate);
        x.pass(16);
        x.rate(station, kind, 0);
    }

    /** Wagon 0 of kind 0 with room 80, with eight packets of 2 units of origin 0, born 16 .. 128. */
    private static PacketStores eightPacketsAboard() {
        PacketStores x = new PacketStores();
        x.wagon(0, 0, 80);
        x.rate(0, 0, 2);
        x.pass(128);
        x.rate(0, 0, 0);
        due("load of eight packets", x.load(0, 0, 80), 16);
        rowDue(x, 8, 0, "0*2@16 0*2@32 0*2@48 0*2@64 0*2@80 0*2@96 0*2@112 0*2@128");
        return x;
    }

    private static void newObject() {
        due("NONE", PacketStores.NONE, -1);
        PacketStores x = new PacketStores();
        for (int where = 0; where < 24; where++) {
            for (int kind = 0; kind < 4; kind++) {
                due("units at first", x.units(where, kind), 0);
            }
        }
        for (int kind = 0; kind < 4; kind++) {
            for (int what = 0; what < 5; what++) {
                due("count at first", x.count(kind, what), 0);
            }
        }
        due("money", x.sum(0), 10000);
        due("earned", x.sum(1), 0);
        due("spent", x.sum(2), 0);
        due("time", x.sum(3), 0);
        due("pass with rates of 0", x.pass(2000), 2000);
        due("nothing is produced", x.count(0, 0) + x.count(1, 0) + x.count(2, 0) + x.count(3, 0), 0);
        PacketStores y = new PacketStores();
        produceOnce(y, 0, 0, 5);
        due("room is 0 at first", y.load(0, 0, 5), 0);
        y.wagon(0, 0, 5);
        y.load(0, 0, 5);
        due("nothing is accepted at first", y.unload(0, 1, 5), 5);
        due("put behind the stock", y.units(1, 0), 5);
        PacketStores z = new PacketStores();
        produceOnce(z, 3, 3, 4);
        z.place(5, 1, 2);
        z.accept(5, 8);
        z.wagon(0, 3, 4);
        z.load(0, 3, 4);
        z.unload(0, 5, 4);
        due("places are 0 and 0 at first", z.sum(1), 4 * 3 * 64);
        due("nothing is made at first", z.units(5, 0) + z.units(5, 1) + z.units(5, 2) + z.units(5, 3), 0);
    }

    private static int paid(int ac, int ar, int bc, int br) {
        PacketStores x = new PacketStores();
        x.place(6, ac, ar);
        x.place(7, bc, br);
        x.accept(7, 2);
        x.wagon(15, 1, 1);
        produceOnce(x, 6, 1, 1);
        x.load(15, 6, 1);
        x.unload(15, 7, 1);
        return x.sum(1);
    }

    private static void place() {
        due("0,0 to 99,99", paid(0, 0, 99, 99), 198 * 64);
        due("99,99 to 0,0", paid(99, 99, 0, 0), 198 * 64);
        due("10,20 to 30,5", paid(10, 20, 30, 5), 35 * 64);
        due("7,7 to 7,7", paid(7, 7, 7, 7), 0);
        PacketStores x = eightPacketsAboard();
        x.place(7, 3, 4);
        x.accept(7, 1);
        throwsDue("place(-1, 0, 0)", INDEX, () -> x.place(-1, 0, 0));
        throwsDue("place(8, 0, 0)", INDEX, () -> x.place(8, 0, 0));
        throwsDue("place(8, -1, 100)", INDEX, () -> x.place(8, -1, 100));
        throwsDue("place(LOW, 0, 0)", INDEX, () -> x.place(LOW, 0, 0));
        throwsDue("place(HIGH, 0, 0)", INDEX, () -> x.place(HIGH, 0, 0));
        throwsDue("place(7, -1, 0)", ARGUMENT, () -> x.place(7, -1, 0));
        throwsDue("place(7, 100, 0)", ARGUMENT, () -> x.place(7, 100, 0));
        throwsDue("place(7, 50, -1)", ARGUMENT, () -> x.place(7, 50, -1));
        throwsDue("place(7, 50, 100)", ARGUMENT, () -> x.place(7, 50, 100));
        x.unload(0, 7, 1);
        due("a refused place is not kept", x.sum(1), 7 * (64 - 112 / 64));
        x.place(0, 3, 4);
        x.unload(0, 7, 1);
        due("the origin's place of now counts", x.sum(1), 7 * (64 - 112 / 64));
    }

    private static void rate() {
        PacketStores x = new PacketStores();
        x.rate(0, 0, 31);
        x.rate(7, 3, 1);
        x.rate(2, 1, 0);
        x.pass(16);
        due("rate 31", x.units(0, 0), 31);
        due("rate 1", x.units(7, 3), 1);
        due("rate 0", x.units(2, 1), 0);
        due("another kind", x.units(0, 1), 0);
        due("another station", x.units(1, 0), 0);
        throwsDue("rate(-1, 0, 1)", INDEX, () -> x.rate(-1, 0, 1));
        throwsDue("rate(8, 0, 1)", INDEX, () -> x.rate(8, 0, 1));
        throwsDue("rate(0, -1, 1)", INDEX, () -> x.rate(0, -1, 1));
        throwsDue("rate(0, 4, 1)", INDEX, () -> x.rate(0, 4, 1));
        throwsDue("rate(0, 4, 32)", INDEX, () -> x.rate(0, 4, 32));
        throwsDue("rate(HIGH, HIGH, 1)", INDEX, () -> x.rate(HIGH, HIGH, 1));
        throwsDue("rate(0, 0, -1)", ARGUMENT, () -> x.rate(0, 0, -1));
        throwsDue("rate(0, 0, 32)", ARGUMENT, () -> x.rate(0, 0, 32));
        x.pass(16);
        due("a refused rate is not kept", x.units(0, 0), 62);
        x.rate(0, 0, 0);
        x.pass(16);
        due("rate back to 0", x.units(0, 0), 62);
    }

    private static void accept() {
        for (int kind = 0; kind < 4; kind++) {
            for (int kinds = 0; kinds < 16; kinds++) {
                PacketStores x = new PacketStores();
                produceOnce(x, 0, kind, 3);
                x.wagon(1, kind, 3);
                x.load(1, 0, 3);
                x.accept(7, kinds);
                boolean accepted = (kinds & 1 << kind) != 0;
                due("unload", x.unload(1, 7, 3), 3);
                due("delivered, accept " + kinds, x.count(kind, 1), accepted ? 3 : 0);
                due("in the stock, accept " + kinds, x.units(7, kind), accepted ? 0 : 3);
            }
        }
        PacketStores x = eightPacketsAboard();
        x.accept(3, 1);
        throwsDue("accept(-1, 1)", INDEX, () -> x.accept(-1, 1));
        throwsDue("accept(8, 1)", INDEX, () -> x.accept(8, 1));
        throwsDue("accept(8, 16)", INDEX, () -> x.accept(8, 16));
        throwsDue("accept(3, 16)", ARGUMENT, () -> x.accept(3, 16));
        throwsDue("accept(3, -1)", ARGUMENT, () -> x.accept(3, -1));
        throwsDue("accept(3, LOW)", ARGUMENT, () -> x.accept(3, LOW));
        throwsDue("accept(3, 0x40000002)", ARGUMENT, () -> x.accept(3, 0x40000002));
        x.unload(0, 3, 1);
        due("a refused accept is not kept", x.count(0, 1), 1);
        x.accept(3, 0);
        x.unload(0, 3, 1);
        due("accept none again", x.count(0, 1), 1);
    }

    private static void make() {
        PacketStores x = eightPacketsAboard();
        x.accept(4, 1);
        x.make(4, 0, 3);
        x.make(4, 1, 2);
        x.make(5, 0, 2);
        x.unload(0, 4, 3);
        rowDue(x, 4, 3, "4*3@128");
        due("made units are produced", x.count(3, 0), 3);
        due("delivered kind is not produced", x.count(0, 0), 16);
        due("other kinds are not made", x.count(1, 0) + x.count(2, 0), 0);
        throwsDue("make(-1, 0, 1)", INDEX, () -> x.make(-1, 0, 1));
        throwsDue("make(8, 0, 1)", INDEX, () -> x.make(8, 0, 1));
        throwsDue("make(4, -1, 1)", INDEX, () -> x.make(4, -1, 1));
        throwsDue("make(4, 4, 1)", INDEX, () -> x.make(4, 4, 1));
        throwsDue("make(4, 4, 4)", INDEX, () -> x.make(4, 4, 4));
        throwsDue("make(4, 0, 4)", ARGUMENT, () -> x.make(4, 0, 4));
        throwsDue("make(4, 0, -2)", ARGUMENT, () -> x.make(4, 0, -2));
        throwsDue("make(4, 0, HIGH)", ARGUMENT, () -> x.make(4, 0, HIGH));
        x.pass(3);
        x.unload(0, 4, 2);
        rowDue(x, 4, 3, "4*3@128 4*2@131");
        x.make(4, 0, PacketStores.NONE);
        x.unload(0, 4, 2);
        due("nothing is made any more", x.count(3, 0), 5);
        x.make(4, 0, 0);
        x.unload(0, 4, 2);
        rowDue(x, 4, 0, "4*2@131");
        due("the kind itself is made", x.count(0, 0), 18);
    }

    private static void wagon() {
        PacketStores x = new PacketStores();
        produceOnce(x, 0, 0, 31);
        produceOnce(x, 0, 1, 31);
        x.wagon(15, 1, 80);
        due("load of kind 1", x.load(15, 0, 10), 10);
        due("of kind 1", x.count(1, 4), 10);
        throwsDue("wagon(-1, 0, 0)", INDEX, () -> x.wagon(-1, 0, 0));
        throwsDue("wagon(16, 0, 0)", INDEX, () -> x.wagon(16, 0, 0));
        throwsDue("wagon(15, -1, 20)", INDEX, () -> x.wagon(15, -1, 20));
        throwsDue("wagon(15, 4, 20)", INDEX, () -> x.wagon(15, 4, 20));
        throwsDue("wagon(15, 4, 81)", INDEX, () -> x.wagon(15, 4, 81));
        throwsDue("wagon(0, 0, -1)", ARGUMENT, () -> x.wagon(0, 0, -1));
        throwsDue("wagon(0, 0, 81)", ARGUMENT, () -> x.wagon(0, 0, 81));
        throwsDue("wagon(15, 1, 9)", ARGUMENT, () -> x.wagon(15, 1, 9));
        throwsDue("wagon(15, 0, 80)", ARGUMENT, () -> x.wagon(15, 0, 80));
        due("the room is still 80", x.load(15, 0, 1), 1);
        x.wagon(14, 0, 80);
        x.load(14, 0, 1);
        throwsDue("wagon(14, 1, 80)", ARGUMENT, () -> x.wagon(14, 1, 80));
        x.dump(14);
        x.wagon(15, 1, 11);
        due("a full wagon", x.load(15, 0, 1), 0);
        x.dump(15);
        x.wagon(15, 0, 0);
        due("a room of 0", x.load(15, 0, 1), 0);
        x.wagon(15, 0, 2);
        due("another kind when it is empty", x.load(15, 0, 9), 2);
        due("of kind 0", x.count(0, 4), 2);
        due("of kind 1 no more", x.count(1, 4), 0);
    }

    private static void pass() {
        PacketStores x = new PacketStores();
        x.rate(1, 2, 3);
        due("pass(0)", x.pass(0), 0);
        due("0 is a multiple, but time did not become it", x.units(1, 2), 0);
        due("pass(15)", x.pass(15), 15);
        due("before the multiple", x.units(1, 2), 0);
        due("pass(1)", x.pass(1), 16);
        rowDue(x, 1, 2, "1*3@16");
        due("pass(0) on a multiple", x.pass(0), 16);
        due("nothing is produced twice", x.units(1, 2), 3);
        due("pass(33)", x.pass(33), 49);
        rowDue(x, 1, 2, "1*3@16 1*3@32 1*3@48");
        throwsDue("pass(-1)", ARGUMENT, () -> x.pass(-1));
        throwsDue("pass(LOW)", ARGUMENT, () -> x.pass(LOW));
        throwsDue("pass(2001)", ARGUMENT, () -> x.pass(2001));
        throwsDue("pass(HIGH)", ARGUMENT, () -> x.pass(HIGH));
        due("pass(2000)", x.pass(2000), 2049);
        rowDue(x, 1, 2, "1*3@16 1*3@32 1*3@48 1*3@64 1*3@80 1*3@96 1*3@112 1*363@128");
        due("produced", x.count(2, 0), 384);
        x.rate(1, 2, 31);
        x.pass(320);
        due("a stock is full", x.units(1, 2), 999);
        due("only what was put was produced", x.count(2, 0), 999);
        x.pass(2000);
        due("it stays full", x.units(1, 2), 999);
    }

    private static void load() {
        PacketStores x = eightPacketsAboard();
        produceOnce(x, 1, 0, 31);
        x.wagon(1, 0, 5);
        due("load(1, 1, 0)", x.load(1, 1, 0), 0);
        due("load(1, 1, 3)", x.load(1, 1, 3), 3);
        due("load up to the room", x.load(1, 1, HIGH), 2);
        rowDue(x, 9, 0, "1*5@144");
        due("left in the stock", x.units(1, 0), 26);
        due("a ninth packet joins the last", x.load(0, 1, 4), 4);
        rowDue(x, 8, 0, "0*2@16 0*2@32 0*2@48 0*2@64 0*2@80 0*2@96 0*2@112 0*6@128");
        due("load up to the stock", x.load(0, 1, 80), 22);
        due("an empty stock", x.load(0, 1, 80), 0);
        rowDue(x, 1, 0, "");
        throwsDue("load(-1, 0, 1)", INDEX, () -> x.load(-1, 0, 1));
        throwsDue("load(16, 0, 1)", INDEX, () -> x.load(16, 0, 1));
        throwsDue("load(0, -1, 1)", INDEX, () -> x.load(0, -1, 1));
        throwsDue("load(0, 8, 1)", INDEX, () -> x.load(0, 8, 1));
        throwsDue("load(0, 8, -1)", INDEX, () -> x.load(0, 8, -1));
        throwsDue("load(16, 0, -1)", INDEX, () -> x.load(16, 0, -1));
        throwsDue("load(0, 0, -1)", ARGUMENT, () -> x.load(0, 0, -1));
        throwsDue("load(0, 0, LOW)", ARGUMENT, () -> x.load(0, 0, LOW));
        PacketStores y = new PacketStores();
        y.wagon(2, 1, 80);
        y.rate(0, 1, 2);
        y.pass(32);
        y.load(2, 0, 1);
        rowDue(y, 0, 1, "0*1@16 0*2@32");
        y.load(2, 0, 2);
        rowDue(y, 10, 1, "0*2@16 0*1@32");
        rowDue(y, 0, 1, "0*1@32");
    }

    private static void unload() {
        PacketStores x = eightPacketsAboard();
        due("unload(0, 1, 0)", x.unload(0, 1, 0), 0);
        due("unload(0, 1, 3)", x.unload(0, 1, 3), 3);
        rowDue(x, 1, 0, "0*2@16 0*1@32");
        rowDue(x, 8, 0, "0*1@32 0*2@48 0*2@64 0*2@80 0*2@96 0*2@112 0*2@128");
        due("not delivered", x.count(0, 1), 0);
        due("not paid for", x.sum(1), 0);
        due("not produced", x.count(0, 0), 16);
        throwsDue("unload(-1, 0, 1)", INDEX, () -> x.unload(-1, 0, 1));
        throwsDue("unload(16, 0, 1)", INDEX, () -> x.unload(16, 0, 1));
        throwsDue("unload(0, -1, 1)", INDEX, () -> x.unload(0, -1, 1));
        throwsDue("unload(0, 8, 1)", INDEX, () -> x.unload(0, 8, 1));
        throwsDue("unload(0, 8, -1)", INDEX, () -> x.unload(0, 8, -1));
        throwsDue("unload(0, 0, -1)", ARGUMENT, () -> x.unload(0, 0, -1));
        due("unload all", x.unload(0, 1, HIGH), 13);
        due("unload an empty wagon", x.unload(0, 1, HIGH), 0);
        due("load it again", x.load(0, 1, 3), 3);
        rowDue(x, 8, 0, "0*2@16 0*1@32");
        due("unload it again", x.unload(0, 2, 80), 3);
        produceOnce(x, 3, 0, 4);
        x.load(0, 3, 80);
        rowDue(x, 8, 0, "3*4@144");
        PacketStores y = eightPacketsAboard();
        y.place(1, 1, 0);
        y.accept(1, 1);
        due("deliver eight packets", y.unload(0, 1, 16), 16);
        due("delivered", y.count(0, 1), 16);
        due("paid for", y.sum(1), 2 * (63 + 63 + 63 + 63 + 64 + 64 + 64 + 64));
        due("left aboard", y.units(8, 0), 0);
        rowDue(y, 8, 0, "");
        unloadAtFullStock();
        unloadForMoney();
        makeAtFullStock();
    }

    private static void unloadAtFullStock() {
        PacketStores x = new PacketStores();
        x.wagon(0, 0, 80);
        x.rate(0, 0, 31);
        x.rate(1, 0, 31);
        x.pass(528);
        x.load(0, 0, 70);
        x.load(0, 1, 10);
        due("no room in the stock", x.unload(0, 2, 0), 0);
        x.rate(0, 0, 0);
        x.pass(16);
        due("stock 1 was filled again", x.units(1, 0), 999);
        due("unload at a full stock", x.unload(0, 1, 80), 0);
        due("as far as there is room", x.unload(0, 0, 80), 70);
        due("stock", x.units(0, 0), 999);
        due("left aboard", x.units(8, 0), 10);
        due("unload none of an accepted kind at a full stock", x.unload(0, 0, 80), 0);
        x.accept(0, 1);
        due("what is accepted needs no room", x.unload(0, 0, 80), 10);
    }

    private static void unloadForMoney() {
        PacketStores x = new PacketStores();
        x.place(0, 10, 10);
        x.place(1, 15, 8);
        x.place(2, 10, 11);
        x.accept(2, 1);
        x.wagon(0, 0, 80);
        x.rate(0, 0, 2);
        x.pass(16);
        x.rate(0, 0, 0);
        x.rate(1, 0, 3);
        x.pass(63 - 16);
        x.rate(1, 0, 0);
        x.load(0, 0, 80);
        x.load(0, 1, 80);
        rowDue(x, 8, 0, "0*2@16 1*3@32 1*3@48");
        x.pass(16);
        due("time", x.sum(3), 79);
        x.unload(0, 2, 1);
        due("63 later", x.sum(1), 64);
        x.pass(1);
        due("over several packets", x.unload(0, 2, 4), 4);
        due("64 later, then 48 later", x.sum(1), 64 + 63 + 3 * 8 * 64);
        due("money", x.sum(0), 10000 + 64 + 63 + 3 * 8 * 64);
        due("delivered", x.count(0, 1), 5);
        x.pass(2000);
        x.pass(48 + 62 * 64 - x.sum(3));
        x.unload(0, 2, 1);
        int earned = 64 + 63 + 3 * 8 * 64 + 8 * 2;
        due("62 times 64 later", x.sum(1), earned);
        x.pass(127);
        x.unload(0, 2, 1);
        earned += 8;
        due("63 times 64 later", x.sum(1), earned);
        x.pass(2000);
        x.unload(0, 2, 1);
        earned += 8;
        due("at least the distance", x.sum(1), earned);
    }

    private static void makeAtFullStock() {
        PacketStores x = new PacketStores();
        x.rate(0, 1, 31);
        x.rate(1, 0, 31);
        x.pass(528);
        x.rate(0, 1, 0);
        x.wagon(0, 0, 80);
        x.wagon(1, 1, 80);
        x.load(0, 1, 80);
        x.load(1, 0, 3);
        x.accept(0, 1);
        x.make(0, 0, 1);
        int before = x.count(1, 0);
        due("all are delivered", x.unload(0, 0, 80), 80);
        due("made as far as there is room", x.count(1, 0), before + 3);
        due("the stock is full", x.units(0, 1), 999);
        due("delivered", x.count(0, 1), 80);
    }

    private static void pour() {
        PacketStores x = eightPacketsAboard();
        x.wagon(1, 0, 20);
        x.wagon(2, 1, 20);
        x.wagon(3, 0, 15);
        produceOnce(x, 5, 0, 4);
        x.load(1, 5, 4);
        throwsDue("pour(-1, 0)", INDEX, () -> x.pour(-1, 0));
        throwsDue("pour(0, 16)", INDEX, () -> x.pour(0, 16));
        throwsDue("pour(16, 16)", INDEX, () -> x.pour(16, 16));
        throwsDue("pour(0, 0)", ARGUMENT, () -> x.pour(0, 0));
        throwsDue("pour(2, 0)", ARGUMENT, () -> x.pour(2, 0));
        throwsDue("pour(0, 2)", ARGUMENT, () -> x.pour(0, 2));
        throwsDue("pour(3, 0)", ARGUMENT, () -> x.pour(3, 0));
        x.pour(1, 0);
        rowDue(x, 8, 0, "");
        rowDue(x, 9, 0, "5*4@144 0*2@16 0*2@32 0*2@48 0*2@64 0*2@80 0*2@96 0*4@112");
        due("units", x.units(9, 0), 20);
        x.pour(1, 3);
        due("an empty wagon into a full one", x.units(9, 0), 20);
        x.pour(0, 1);
        rowDue(x, 8, 0, "5*4@144 0*2@16 0*2@32 0*2@48 0*2@64 0*2@80 0*2@96 0*4@112");
        PacketStores y = eightPacketsAboard();
        y.wagon(1, 0, 16);
        y.part(0, 5, 1);
        y.pour(0, 1);
        rowDue(y, 8, 0, "0*2@16 0*2@32 0*2@48 0*2@64 0*2@80 0*2@96 0*2@112 0*2@128");
        y.wagon(2, 0, 0);
        y.pour(2, 1);
        due("none into no room", y.units(10, 0), 0);
        PacketStores z = eightPacketsAboard();
        z.wagon(1, 0, 19);
        produceOnce(z, 5, 0, 4);
        z.load(1, 5, 4);
        throwsDue("pour with one too many", ARGUMENT, () -> z.pour(1, 0));
    }

    private static void part() {
        PacketStores x = eightPacketsAboard();
        x.wagon(1, 0, 11);
        x.wagon(2, 1, 80);
        x.wagon(3, 0, 80);
        produceOnce(x, 0, 0, 1);
        x.load(3, 0, 1);
        throwsDue("part(-1, 5, 1)", INDEX, () -> x.part(-1, 5, 1));
        throwsDue("part(0, 5, 16)", INDEX, () -> x.part(0, 5, 16));
        throwsDue("part(0, -1, 16)", INDEX, () -> x.part(0, -1, 16));
        throwsDue("part(0, -1, 1)", ARGUMENT, () -> x.part(0, -1, 1));
        throwsDue("part(0, LOW, 1)", ARGUMENT, () -> x.part(0, LOW, 1));
        throwsDue("part(0, 5, 0)", ARGUMENT, () -> x.part(0, 5, 0));
        throwsDue("part(0, 5, 3)", ARGUMENT, () -> x.part(0, 5, 3));
        throwsDue("part(0, HIGH, 3)", ARGUMENT, () -> x.part(0, HIGH, 3));
        throwsDue("part(0, 5, 2)", ARGUMENT, () -> x.part(0, 5, 2));
        throwsDue("part(0, 4, 1)", ARGUMENT, () -> x.part(0, 4, 1));
        x.part(0, HIGH, 1);
        due("all stay", x.units(8, 0), 16);
        x.part(0, 16, 1);
        due("all stay again", x.units(8, 0), 16);
        x.part(0, 5, 1);
        rowDue(x, 8, 0, "0*2@16 0*2@32 0*1@48");
        rowDue(x, 9, 0, "0*1@48 0*2@64 0*2@80 0*2@96 0*2@112 0*2@128");
        due("units that stay", x.units(8, 0), 5);
        due("units that go", x.units(9, 0), 11);
        due("units in wagons", x.count(0, 4), 17);
        x.dump(3);
        x.part(0, 2, 3);
        rowDue(x, 8, 0, "0*2@16");
        rowDue(x, 11, 0, "0*2@32 0*1@48");
        x.dump(3);
        x.part(1, 0, 3);
        rowDue(x, 9, 0, "");
        rowDue(x, 11, 0, "0*1@48 0*2@64 0*2@80 0*2@96 0*2@112 0*2@128");
        x.part(1, 0, 4);
        due("nothing of an empty wagon", x.units(12, 0), 0);
    }

    private static void dump() {
        PacketStores x = eightPacketsAboard();
        x.wagon(1, 3, 80);
        produceOnce(x, 0, 3, 6);
        x.load(1, 0, 80);
        throwsDue("dump(-1)", INDEX, () -> x.dump(-1));
        throwsDue("dump(16)", INDEX, () -> x.dump(16));
        throwsDue("dump(HIGH)", INDEX, () -> x.dump(HIGH));
        due("dump(0)", x.dump(0), 16);
        due("dumped", x.count(0, 2), 16);
        due("dumped of another kind", x.count(3, 2), 0);
        rowDue(x, 8, 0, "");
        due("units", x.units(8, 0), 0);
        due("dump(0) again", x.dump(0), 0);
        due("dump(1)", x.dump(1), 6);
        due("dumped of kind 3", x.count(3, 2), 6);
        due("dumped of kind 0", x.count(0, 2), 16);
        due("delivered", x.count(0, 1), 0);
        produceOnce(x, 0, 0, 1);
        due("room after a dump", x.load(0, 0, 80), 1);
        rowDue(x, 8, 0, "0*1@160");
    }

    private static void spend() {
        PacketStores x = new PacketStores();
        due("spend(-1)", x.spend(-1), false);
        due("spend(LOW)", x.spend(LOW), false);
        due("spend(10001)", x.spend(10001), false);
        due("spend(HIGH)", x.spend(HIGH), false);
        due("nothing changed", x.sum(0), 10000);
        due("nothing spent", x.sum(2), 0);
        due("spend(0)", x.spend(0), true);
        due("spend(1)", x.spend(1), true);
        due("money", x.sum(0), 9999);
        due("spent", x.sum(2), 1);
        due("spend(9999)", x.spend(9999), true);
        due("money is gone", x.sum(0), 0);
        due("all is spent", x.sum(2), 10000);
        due("spend(0) without money", x.spend(0), true);
        due("spend(1) without money", x.spend(1), false);
        due("earned", x.sum(1), 0);
    }

    private static void packet() {
        PacketStores x = eightPacketsAboard();
        produceOnce(x, 7, 3, 9);
        x.wagon(15, 3, 4);
        x.load(15, 7, 4);
        due("origin", x.packet(7, 3, 0, 0), 7);
        due("units", x.packet(7, 3, 0, 1), 5);
        due("born", x.packet(7, 3, 0, 2), 144);
        due("another what", x.packet(7, 3, 0, 3), -1);
        due("what below 0", x.packet(7, 3, 0, -1), -1);
        due("no packet 1", x.packet(7, 3, 1, 0), -1);
        due("no packet -1", x.packet(7, 3, -1, 0), -1);
        due("no packet HIGH", x.packet(7, 3, HIGH, 0), -1);
        due("no packet LOW", x.packet(7, 3, LOW, 0), -1);
        due("another kind", x.packet(7, 2, 0, 1), -1);
        due("no such kind", x.packet(7, 4, 0, 1), -1);
        due("kind -1", x.packet(7, -1, 0, 1), -1);
        int[] kinds = {0, 3, 4, -1, HIGH, LOW};
        for (int kind : kinds) {
            due("origin in the last wagon", x.packet(23, kind, 0, 0), 7);
            due("units in the last wagon", x.packet(23, kind, 0, 1), 4);
            due("born in the last wagon", x.packet(23, kind, 0, 2), 144);
            due("another what of the last wagon", x.packet(23, kind, 0, 4), -1);
            due("first wagon, last packet", x.packet(8, kind, 7, 2), 128);
            due("first wagon, no ninth packet", x.packet(8, kind, 8, 2), -1);
            due("where -1", x.packet(-1, kind, 0, 0), -1);
            due("where 24", x.packet(24, kind, 0, 0), -1);
            due("where LOW", x.packet(LOW, kind, 0, 0), -1);
            due("where HIGH", x.packet(HIGH, kind, 0, 0), -1);
        }
    }

    private static void units() {
        PacketStores x = eightPacketsAboard();
        produceOnce(x, 7, 3, 9);
        x.wagon(15, 3, 4);
        x.load(15, 7, 4);
        due("stock", x.units(7, 3), 5);
        due("empty stock", x.units(7, 2), 0);
        due("no such kind", x.units(7, 4), -1);
        due("kind -1", x.units(7, -1), -1);
        int[] kinds = {0, 3, 4, -1, HIGH, LOW};
        for (int kind : kinds) {
            due("first wagon", x.units(8, kind), 16);
            due("last wagon", x.units(23, kind), 4);
            due("empty wagon", x.units(9, kind), 0);
            due("where 24", x.units(24, kind), -1);
            due("where -1", x.units(-1, kind), -1);
            due("where HIGH", x.units(HIGH, kind), -1);
            due("where LOW", x.units(LOW, kind), -1);
        }
    }

    private static void count() {
        PacketStores x = new PacketStores();
        for (int station = 0; station < 8; station++) {
            for (int kind = 0; kind < 4; kind++) {
                x.rate(station, kind, station + kind);
            }
        }
        x.pass(32);
        x.wagon(0, 2, 20);
        x.wagon(15, 2, 20);
        x.wagon(7, 1, 20);
        x.load(0, 7, 7);
        x.load(15, 6, 6);
        x.load(7, 6, 5);
        x.accept(0, 4);
        x.unload(0, 0, 4);
        x.dump(7);
        int[][] want = {{56, 0, 0, 56, 0}, {72, 0, 5, 67, 0}, {88, 4, 0, 75, 9}, {104, 0, 0, 104, 0}};
        for (int kind = 0; kind < 4; kind++) {
            for (int what = 0; what < 5; what++) {
                due("count(" + kind + ", " + what + ")", x.count(kind, what), want[kind][what]);
            }
            due("count of what 5", x.count(kind, 5), -1);
            due("count of what -1", x.count(kind, -1), -1);
        }
        for (int what = -1; what < 6; what++) {
            due("count of kind -1", x.count(-1, what), -1);
            due("count of kind 4", x.count(4, what), -1);
            due("count of kind HIGH", x.count(HIGH, what), -1);
            due("count of kind LOW", x.count(LOW, what), -1);
        }
    }

    private static void sum() {
        PacketStores x = eightPacketsAboard();
        x.place(1, 0, 1);
        x.accept(1, 1);
        x.unload(0, 1, 1);
        x.spend(500);
        due("money", x.sum(0), 9500 + 63);
        due("earned", x.sum(1), 63);
        due("spent", x.sum(2), 500);
        due("time", x.sum(3), 128);
        due("sum(4)", x.sum(4), -1);
        due("sum(-1)", x.sum(-1), -1);
        due("sum(HIGH)", x.sum(HIGH), -1);
        due("sum(LOW)", x.sum(LOW), -1);
    }

    private static void run(String name, Call c) {
        test = name;
        try {
            c.run();
        } catch (RuntimeException e) {
            wrong++;
            System.out.println(name + ": threw " + e);
        }
    }

    public static void main(String[] args) {
        run("promise 1, a new object", PacketStoresPromises::newObject);
        run("promise 2, place", PacketStoresPromises::place);
        run("promise 3, rate", PacketStoresPromises::rate);
        run("promise 4, accept", PacketStoresPromises::accept);
        run("promise 5, make", PacketStoresPromises::make);
        run("promise 6, wagon", PacketStoresPromises::wagon);
        run("promise 7, pass", PacketStoresPromises::pass);
        run("promise 8, load", PacketStoresPromises::load);
        run("promise 9, unload", PacketStoresPromises::unload);
        run("promise 10, pour", PacketStoresPromises::pour);
        run("promise 11, part", PacketStoresPromises::part);
        run("promise 12, dump", PacketStoresPromises::dump);
        run("promise 13, spend", PacketStoresPromises::spend);
        run("promise 14, packet", PacketStoresPromises::packet);
        run("promise 15, units", PacketStoresPromises::units);
        run("promise 16, count", PacketStoresPromises::count);
        run("promise 17, sum", PacketStoresPromises::sum);
        System.out.println(wrong == 0 ? "all answers are as due" : wrong + " answers are not as due");
        if (wrong != 0) {
            System.exit(1);
        }
    }
}
