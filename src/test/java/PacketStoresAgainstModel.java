import java.util.ArrayList;
import java.util.Arrays;
import java.util.List;
import java.util.Random;

/**
 * Runs of 512 calls against a model that does what the document says unit by unit. Every answer is
 * compared, and now and then all that can be asked: of new objects with the same calls behind them, so
 * that none gets more than the 512 calls that are promised. The seeds are fixed, so each run is the same
 * each time.
 */
public final class PacketStoresAgainstModel {
    private static final int RUNS = 300;
    private static final int CALLS = 512;
    private static final int CALLS_BETWEEN_LOOKS = 20;
    private static final int PORTIONS = 7;
    private static final List<int[]> QUESTIONS = allQuestions();
    private static final int CALLS_BEFORE_LOOKS = CALLS - QUESTIONS.size() / PORTIONS - 1;
    private static final long MOST = 2_000_000_000L;

    private static final int INDEX = -101;
    private static final int ARGUMENT = -102;
    private static final int OTHER = -103;
    private static final int VOID = -104;

    /** A row of packets {origin, units, born}. */
    private static final class ModelRow {
        final List<int[]> packets = new ArrayList<>();

        int total() {
            int all = 0;
            for (int[] p : packets) {
                all += p[1];
            }
            return all;
        }

        void put(int origin, int born) {
            int[] last = packets.isEmpty() ? null : packets.get(packets.size() - 1);
            if (last != null && last[0] == origin && last[2] == born) {
                last[1]++;
            } else if (packets.size() == 8) {
                last[1]++;
            } else {
                packets.add(new int[] {origin, 1, born});
            }
        }

        int[] take() {
            int[] first = packets.get(0);
            if (--first[1] == 0) {
                packets.remove(0);
            }
            return new int[] {first[0], first[2]};
        }
    }

    private static final class Model {
        final int[][] places = new int[8][2];
        final int[][] rates = new int[8][4];
        final int[][] made = new int[8][4];
        final int[] accepts = new int[8];
        final ModelRow[][] stock = new ModelRow[8][4];
        final int[] kinds = new int[16];
        final int[] rooms = new int[16];
        final ModelRow[] cargo = new ModelRow[16];
        final long[][] counts = new long[4][3];
        long money = 10000;
        long earned = 0;
        long spent = 0;
        int time = 0;

        Model() {
            for (int s = 0; s < 8; s++) {
                for (int k = 0; k < 4; k++) {
                    stock[s][k] = new ModelRow();
                    made[s][k] = -1;
                }
            }
            for (int w = 0; w < 16; w++) {
                cargo[w] = new ModelRow();
            }
        }

        static boolean in(int x, int most) {
            return 0 <= x && x <= most;
        }

        int place(int s, int c, int r) {
            if (!in(s, 7)) return INDEX;
            if (!in(c, 99) || !in(r, 99)) return ARGUMENT;
            places[s] = new int[] {c, r};
            return VOID;
        }

        int rate(int s, int k, int r) {
            if (!in(s, 7) || !in(k, 3)) return INDEX;
            if (!in(r, 31)) return ARGUMENT;
            rates[s][k] = r;
            return VOID;
        }

        int accept(int s, int bits) {
            if (!in(s, 7)) return INDEX;
            if ((bits & ~15) != 0) return ARGUMENT;
            accepts[s] = bits;
            return VOID;
        }

        int make(int s, int k, int m) {
            if (!in(s, 7) || !in(k, 3)) return INDEX;
            if (m != -1 && !in(m, 3)) return ARGUMENT;
            made[s][k] = m;
            return VOID;
        }

        int wagon(int w, int k, int room) {
            if (!in(w, 15) || !in(k, 3)) return INDEX;
            if (!in(room, 80) || cargo[w].total() > room) return ARGUMENT;
            if (cargo[w].total() != 0 && kinds[w] != k) return ARGUMENT;
            kinds[w] = k;
            rooms[w] = room;
            return VOID;
        }

        void produceOne(int s, int k) {
            if (stock[s][k].total() < 999 && counts[k][0] < MOST) {
                stock[s][k].put(s, time);
                counts[k][0]++;
            }
        }

        int pass(int n) {
            if (!in(n, 2000) || (long) time + n > MOST) return ARGUMENT;
            for (int i = 0; i < n; i++) {
                time++;
                if (time % 16 == 0) {
                    for (int s = 0; s < 8; s++) {
                        for (int k = 0; k < 4; k++) {
                            for (int u = 0; u < rates[s][k]; u++) {
                                produceOne(s, k);
                            }
                        }
                    }
                }
            }
            return time;
        }

        int load(int w, int s, int n) {
            if (!in(w, 15) || !in(s, 7)) return INDEX;
            if (n < 0) return ARGUMENT;
            ModelRow from = stock[s][kinds[w]];
            int moved = 0;
            while (moved < n && from.total() > 0 && cargo[w].total() < rooms[w]) {
                int[] unit = from.take();
                cargo[w].put(unit[0], unit[1]);
                moved++;
            }
            return moved;
        }

        void deliverOne(int[] unit, int s, int k) {
            counts[k][1]++;
            int[] from = places[unit[0]];
            long far = Math.abs(from[0] - places[s][0]) + Math.abs(from[1] - places[s][1]);
            long pay = far * Math.max(1, 64 - (time - unit[1]) / 64);
            pay = Math.min(pay, Math.min(MOST - money, MOST - earned));
            money += pay;
            earned += pay;
            if (made[s][k] != -1) {
                produceOne(s, made[s][k]);
            }
        }

        int unload(int w, int s, int n) {
            if (!in(w, 15) || !in(s, 7)) return INDEX;
            if (n < 0) return ARGUMENT;
            int k = kinds[w];
            boolean accepted = (accepts[s] & 1 << k) != 0;
            int moved = 0;
            while (moved < n && cargo[w].total() > 0 && (accepted || stock[s][k].total() < 999)) {
                int[] unit = cargo[w].take();
                if (accepted) {
                    deliverOne(unit, s, k);
                } else {
                    stock[s][k].put(unit[0], unit[1]);
                }
                moved++;
            }
            return moved;
        }

        int pour(int a, int b) {
            if (!in(a, 15) || !in(b, 15)) return INDEX;
            if (a == b || kinds[a] != kinds[b]) return ARGUMENT;
            if (cargo[a].total() + cargo[b].total() > rooms[a]) return ARGUMENT;
            while (cargo[b].total() > 0) {
                int[] unit = cargo[b].take();
                cargo[a].put(unit[0], unit[1]);
            }
            return VOID;
        }

        int part(int a, int n, int b) {
            if (!in(a, 15) || !in(b, 15)) return INDEX;
            if (n < 0 || a == b || cargo[b].total() > 0 || kinds[a] != kinds[b]) return ARGUMENT;
            if (cargo[a].total() - n > rooms[b]) return ARGUMENT;
            ModelRow all = cargo[a];
            ModelRow stay = new ModelRow();
            for (int i = 0; all.total() > 0; i++) {
                int[] unit = all.take();
                (i < n ? stay : cargo[b]).put(unit[0], unit[1]);
            }
            cargo[a] = stay;
            return VOID;
        }

        int dump(int w) {
            if (!in(w, 15)) return INDEX;
            int gone = cargo[w].total();
            cargo[w] = new ModelRow();
            counts[kinds[w]][2] += gone;
            return gone;
        }

        int spend(int n) {
            if (n < 0 || n > money || spent + n > MOST) return 0;
            money -= n;
            spent += n;
            return 1;
        }

        ModelRow row(int where, int k) {
            if (in(where, 7)) return in(k, 3) ? stock[where][k] : null;
            return in(where - 8, 15) ? cargo[where - 8] : null;
        }

        int packet(int where, int k, int j, int what) {
            ModelRow r = row(where, k);
            if (r == null || j < 0 || j >= r.packets.size() || !in(what, 2)) return -1;
            return r.packets.get(j)[what];
        }

        int units(int where, int k) {
            ModelRow r = row(where, k);
            return r == null ? -1 : r.total();
        }

        int count(int k, int what) {
            if (!in(k, 3) || !in(what, 4)) return -1;
            if (what < 3) return (int) counts[k][what];
            int all = 0;
            for (int s = 0; what == 3 && s < 8; s++) {
                all += stock[s][k].total();
            }
            for (int w = 0; what == 4 && w < 16; w++) {
                all += kinds[w] == k ? cargo[w].total() : 0;
            }
            return all;
        }

        int sum(int what) {
            return what == 0 ? (int) money : what == 1 ? (int) earned
                : what == 2 ? (int) spent : what == 3 ? time : -1;
        }

        int answer(int method, int[] a) {
            switch (method) {
                case 0: return place(a[0], a[1], a[2]);
                case 1: return rate(a[0], a[1], a[2]);
                case 2: return accept(a[0], a[1]);
                case 3: return make(a[0], a[1], a[2]);
                case 4: return wagon(a[0], a[1], a[2]);
                case 5: return pass(a[0]);
                case 6: return load(a[0], a[1], a[2]);
                case 7: return unload(a[0], a[1], a[2]);
                case 8: return pour(a[0], a[1]);
                case 9: return part(a[0], a[1], a[2]);
                case 10: return dump(a[0]);
                case 11: return spend(a[0]);
                case 12: return packet(a[0], a[1], a[2], a[3]);
                case 13: return units(a[0], a[1]);
                case 14: return count(a[0], a[1]);
                default: return sum(a[0]);
            }
        }
    }

    private static final String[] NAMES = {"place", "rate", "accept", "make", "wagon", "pass", "load",
        "unload", "pour", "part", "dump", "spend", "packet", "units", "count", "sum"};

    /** The greatest ordinary value of each argument. */
    private static final int[][] MOSTS = {{7, 99, 99}, {7, 3, 31}, {7, 15}, {7, 3, 3}, {15, 3, 80}, {2000},
        {15, 7, 90}, {15, 7, 90}, {15, 15}, {15, 80, 15}, {15}, {4000}, {23, 3, 7, 2}, {23, 3}, {3, 4}, {3}};

    /** How often each method is called: those that move cargo most often. */
    private static final int[] WEIGHTS = {3, 5, 3, 3, 6, 10, 24, 14, 8, 8, 1, 2, 2, 1, 1, 1};

    private static int call(PacketStores x, int method, int[] a) {
        switch (method) {
            case 0: x.place(a[0], a[1], a[2]); return VOID;
            case 1: x.rate(a[0], a[1], a[2]); return VOID;
            case 2: x.accept(a[0], a[1]); return VOID;
            case 3: x.make(a[0], a[1], a[2]); return VOID;
            case 4: x.wagon(a[0], a[1], a[2]); return VOID;
            case 5: return x.pass(a[0]);
            case 6: return x.load(a[0], a[1], a[2]);
            case 7: return x.unload(a[0], a[1], a[2]);
            case 8: x.pour(a[0], a[1]); return VOID;
            case 9: x.part(a[0], a[1], a[2]); return VOID;
            case 10: return x.dump(a[0]);
            case 11: return x.spend(a[0]) ? 1 : 0;
            case 12: return x.packet(a[0], a[1], a[2], a[3]);
            case 13: return x.units(a[0], a[1]);
            case 14: return x.count(a[0], a[1]);
            default: return x.sum(a[0]);
        }
    }

    private static int answer(PacketStores x, int method, int[] a) {
        try {
            return call(x, method, a);
        } catch (RuntimeException e) {
            if (e.getClass() == IndexOutOfBoundsException.class) return INDEX;
            return e.getClass() == IllegalArgumentException.class ? ARGUMENT : OTHER;
        }
    }

    private static int pickMethod(Random random) {
        int at = random.nextInt(Arrays.stream(WEIGHTS).sum());
        int method = 0;
        while (at >= WEIGHTS[method]) {
            at -= WEIGHTS[method];
            method++;
        }
        return method;
    }

    private static int pickArgument(Random random, int most) {
        switch (random.nextInt(60)) {
            case 0: return -1;
            case 1: return most + 1;
            case 2: return random.nextBoolean() ? Integer.MIN_VALUE : Integer.MAX_VALUE;
            case 3: return most;
            case 4: return 0;
            case 5: return random.nextInt();
            default: return random.nextInt(most + 1);
        }
    }

    /** In half of the runs few stations and wagons are used, so that their cargo meets more often. */
    private static int[] pickArguments(Random random, int method, boolean narrow) {
        int[] a = new int[MOSTS[method].length];
        for (int i = 0; i < a.length; i++) {
            int most = MOSTS[method][i];
            boolean index = most == 7 || most == 15 || most == 3;
            a[i] = pickArgument(random, most);
            if (narrow && index && method < 11 && method != 2 && Model.in(a[i], most)) {
                a[i] %= most == 3 ? 2 : 4;
            }
        }
        if (method == 5 && Model.in(a[0], 2000) && random.nextInt(8) != 0) {
            a[0] %= 50;
        }
        return a;
    }

    /** Each as the method and its arguments. */
    private static List<int[]> allQuestions() {
        List<int[]> all = new ArrayList<>();
        for (int where = 0; where < 24; where++) {
            for (int k = 0; k < (where < 8 ? 4 : 1); k++) {
                all.add(new int[] {13, where, k});
                for (int j = 0; j < 9; j++) {
                    for (int what = 0; what < 3; what++) {
                        all.add(new int[] {12, where, k, j, what});
                    }
                }
            }
        }
        for (int k = 0; k < 4; k++) {
            for (int what = 0; what < 5; what++) {
                all.add(new int[] {14, k, what});
            }
        }
        for (int what = 0; what < 4; what++) {
            all.add(new int[] {15, what});
        }
        return all;
    }

    private static int[] arguments(int[] call) {
        return Arrays.copyOfRange(call, 1, call.length);
    }

    private static String name(int[] call) {
        return NAMES[call[0]] + Arrays.toString(arguments(call));
    }

    private static PacketStores after(List<int[]> calls) {
        PacketStores x = new PacketStores();
        for (int[] call : calls) {
            answer(x, call[0], arguments(call));
        }
        return x;
    }

    /** The first question whose answer is wrong after these calls, or nothing. */
    private static String wrongQuestion(List<int[]> calls, Model m) {
        for (int portion = 0; portion < PORTIONS; portion++) {
            PacketStores x = after(calls);
            for (int q = portion; q < QUESTIONS.size(); q += PORTIONS) {
                int[] question = QUESTIONS.get(q);
                if (answer(x, question[0], arguments(question)) != m.answer(question[0], arguments(question))) {
                    return name(question);
                }
            }
        }
        return "";
    }

    private static boolean runIsRight(int seed, int[][] seen) {
        Random random = new Random(seed);
        PacketStores x = new PacketStores();
        Model m = new Model();
        List<int[]> calls = new ArrayList<>();
        for (int i = 1; i <= CALLS; i++) {
            int method = pickMethod(random);
            int[] a = pickArguments(random, method, seed % 2 == 0);
            int[] call = new int[a.length + 1];
            call[0] = method;
            System.arraycopy(a, 0, call, 1, a.length);
            calls.add(call);
            int got = answer(x, method, a);
            int want = m.answer(method, a);
            if (got != want) {
                System.out.println("run " + seed + ", call " + i + ": " + name(call) + " answered " + got
                    + ", due is " + want);
                return false;
            }
            if (i % CALLS_BETWEEN_LOOKS == 0 && i <= CALLS_BEFORE_LOOKS) {
                String question = wrongQuestion(calls, m);
                if (!question.isEmpty()) {
                    System.out.println("run " + seed + ", after " + i + " calls: wrong answer of " + question);
                    return false;
                }
            }
            seen[method][want == INDEX ? 0 : want == ARGUMENT ? 1 : want == 0 ? 2 : 3]++;
        }
        return true;
    }

    public static void main(String[] args) {
        int wrong = 0;
        int[][] seen = new int[NAMES.length][4];
        for (int seed = 0; seed < RUNS; seed++) {
            wrong += runIsRight(seed, seen) ? 0 : 1;
        }
        for (int method = 0; method < NAMES.length; method++) {
            if (args.length > 0) System.out.println(NAMES[method] + " " + Arrays.toString(seen[method]));
        }
        System.out.println(wrong == 0 ? "all runs are as due" : wrong + " runs are not as due");
        if (wrong != 0) {
            System.exit(1);
        }
    }
}
