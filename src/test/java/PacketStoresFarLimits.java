/**
 * The sentences of the document that name 2,000,000,000. No run of 512 calls comes there, and nothing is
 * promised of later calls; but the class keeps these limits all the same, and this watches that it does,
 * so that no number ever runs over.
 */
public final class PacketStoresFarLimits {
    private static final int MOST = 2_000_000_000;

    private static int wrong = 0;
    private static String sentence = "";

    private interface Test {
        void run();
    }

    private static void due(String call, long got, long want) {
        if (got != want) {
            wrong++;
            System.out.println(sentence + ": " + call + " answered " + got + ", due is " + want);
        }
    }

    private static void due(String call, boolean got, boolean want) {
        due(call, got ? 1 : 0, want ? 1 : 0);
    }

    private static void passIsRefused(PacketStores x, int n) {
        int time = x.sum(3);
        int units = x.units(0, 0);
        boolean thrown = false;
        try {
            x.pass(n);
        } catch (IllegalArgumentException e) {
            thrown = true;
        }
        due("pass(" + n + ") is refused", thrown, true);
        due("time after a refused pass", x.sum(3), time);
        due("units after a refused pass", x.units(0, 0), units);
    }

    private static void time() {
        PacketStores x = new PacketStores();
        for (int i = 0; i < MOST / 2000 - 1; i++) {
            x.pass(2000);
        }
        x.rate(0, 0, 1);
        due("pass(1)", x.pass(1), MOST - 1999);
        passIsRefused(x, 2000);
        due("pass(1998)", x.pass(1998), MOST - 1);
        due("before the last multiple of 16", x.units(0, 0), 124);
        passIsRefused(x, 2);
        due("pass(1) to the end", x.pass(1), MOST);
        due("the end is a multiple of 16", x.units(0, 0), 125);
        due("born of the first packet", x.packet(0, 0, 0, 2), MOST - 2000 + 16);
        passIsRefused(x, 1);
        passIsRefused(x, 2000);
        due("pass(0) at the end", x.pass(0), MOST);
        due("nothing more", x.units(0, 0), 125);
    }

    /** The farthest way there is, with a full wagon. */
    private static PacketStores farApart() {
        PacketStores x = new PacketStores();
        x.place(1, 99, 99);
        x.accept(1, 1);
        x.wagon(0, 0, 80);
        x.rate(0, 0, 31);
        return x;
    }

    private static int deliverEighty(PacketStores x) {
        x.pass(48);
        x.load(0, 0, 80);
        return x.unload(0, 1, 80);
    }

    private static PacketStores rich() {
        PacketStores x = farApart();
        for (int i = 0; i < 2500; i++) {
            deliverEighty(x);
        }
        return x;
    }

    private static void money() {
        PacketStores x = rich();
        due("money", x.sum(0), MOST);
        due("earned", x.sum(1), MOST - 10000);
        due("delivered all the same", deliverEighty(x), 80);
        due("money still", x.sum(0), MOST);
        due("earned still", x.sum(1), MOST - 10000);
        x.spend(1);
        deliverEighty(x);
        due("money again", x.sum(0), MOST);
        due("earned one more", x.sum(1), MOST - 9999);
    }

    private static void earned() {
        PacketStores x = rich();
        due("spend(1000000)", x.spend(1_000_000), true);
        due("delivered", deliverEighty(x), 80);
        due("earned", x.sum(1), MOST);
        due("money", x.sum(0), MOST - 1_000_000 + 10000);
        due("delivered all the same", deliverEighty(x), 80);
        due("earned still", x.sum(1), MOST);
        due("money still", x.sum(0), MOST - 1_000_000 + 10000);
    }

    private static void spent() {
        PacketStores x = rich();
        due("spend(10000)", x.spend(10000), true);
        deliverEighty(x);
        due("money", x.sum(0), MOST);
        due("spent would be one above", x.spend(MOST - 9999), false);
        due("spent would be far above", x.spend(MOST), false);
        due("nothing is spent", x.sum(2), 10000);
        due("money still", x.sum(0), MOST);
        due("spent comes to its most", x.spend(MOST - 10000), true);
        due("spent", x.sum(2), MOST);
        due("money", x.sum(0), 10000);
        due("spend(1)", x.spend(1), false);
        due("spend(0)", x.spend(0), true);
        due("spent still", x.sum(2), MOST);
    }

    /** Station 0 makes new units of kind 2 of those that it has, again and again. */
    private static PacketStores nearlyAllProduced() {
        PacketStores x = new PacketStores();
        x.accept(0, 4);
        x.make(0, 2, 2);
        x.wagon(0, 2, 80);
        x.rate(0, 2, 31);
        x.pass(48);
        x.rate(0, 2, 0);
        for (int i = (MOST - 93) / 80; i > 0; i--) {
            x.load(0, 0, 80);
            x.unload(0, 0, 80);
        }
        return x;
    }

    private static void produced() {
        PacketStores x = nearlyAllProduced();
        due("67 are left to produce", x.count(2, 0), MOST - 67);
        due("load", x.load(0, 0, 80), 80);
        due("unload", x.unload(0, 0, 57), 57);
        due("10 are left", x.count(2, 0), MOST - 10);
        x.rate(3, 2, 7);
        x.rate(5, 2, 2);
        x.pass(16);
        due("the rate of the first station", x.units(3, 2), 7);
        due("the rate of the second", x.units(5, 2), 2);
        int stock = x.units(0, 2);
        due("unload with one left", x.unload(0, 0, 5), 5);
        due("one is made", x.units(0, 2), stock + 1);
        due("produced", x.count(2, 0), MOST);
        due("unload with none left", x.unload(0, 0, 5), 5);
        x.rate(7, 1, 31);
        x.pass(16);
        due("none is made", x.units(0, 2), stock + 1);
        due("none comes at the first station", x.units(3, 2), 7);
        due("nor at the second", x.units(5, 2), 2);
        due("produced still", x.count(2, 0), MOST);
        due("another kind comes", x.count(1, 0), 31);
        due("all are somewhere", x.count(2, 1) + x.count(2, 3) + x.count(2, 4), MOST);
    }

    private static void producedInPart() {
        PacketStores x = nearlyAllProduced();
        x.rate(1, 2, 31);
        x.rate(3, 2, 31);
        x.rate(5, 2, 31);
        x.pass(16);
        due("the first station has all", x.units(1, 2), 31);
        due("the second too", x.units(3, 2), 31);
        due("the third what is left", x.units(5, 2), 5);
        due("produced", x.count(2, 0), MOST);
    }

    private static void run(String name, Test test) {
        sentence = name;
        try {
            test.run();
        } catch (RuntimeException e) {
            wrong++;
            System.out.println(name + ": threw " + e);
        }
    }

    public static void main(String[] args) {
        run("Promise 7: or TIME would be above", PacketStoresFarLimits::time);
        run("Terms: so much that money is at most", PacketStoresFarLimits::money);
        run("Terms: so much that earned is at most", PacketStoresFarLimits::earned);
        run("Promise 13: or spent would be above", PacketStoresFarLimits::spent);
        run("Terms: only if the count is at most", PacketStoresFarLimits::produced);
        run("Terms: as far as the count allows", PacketStoresFarLimits::producedInPart);
        System.out.println(wrong == 0 ? "all far limits are as due" : wrong + " answers are not as due");
        if (wrong != 0) {
            System.exit(1);
        }
    }
}
