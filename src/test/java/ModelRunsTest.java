import java.util.ArrayList;
import java.util.List;
import java.util.Random;
import java.util.TreeMap;

/** Long runs of calls, by fixed seeds, that the program and the model must answer alike (promises 1 to 17). */
public final class ModelRunsTest {
    private final Random random;
    private static final int MOST_CALLS = 512;
    private final DeltaFerry ferry = new DeltaFerry();
    private final Model model = new Model();
    private final String run;
    private int calls = 0;
    private static final TreeMap<String, Integer> seen = new TreeMap<>();

    private ModelRunsTest(int seed) {
        random = new Random(seed);
        run = "run " + seed;
    }

    public static void main(String[] args) {
        int factor = args.length > 0 ? Integer.parseInt(args[0]) : 1;
        for (int seed = 0; seed < 600 * factor && Checks.wrong() == 0; seed++) {
            new ModelRunsTest(seed).anyCalls();
        }
        for (int seed = 0; seed < 1000 * factor && Checks.wrong() == 0; seed++) {
            new ModelRunsTest(1_000_000 + seed).plans();
        }
        for (int seed = 0; seed < 3000 * factor && Checks.wrong() == 0; seed++) {
            new ModelRunsTest(2_000_000 + seed).deltas();
        }
        System.out.println("answers met: " + seen);
        for (String needed : List.of("decode BROKEN", "decode SECOND", "decode LARGE", "decode TABLE",
                "decode CHECK", "decode made", "table used", "step OTHER", "step CHECK")) {
            Checks.due("the runs meet " + needed, seen.containsKey(needed), true);
        }
        Checks.finish("ModelRunsTest");
    }

    private static void meet(String call, long answer) {
        String[] names = {"made", "NONE", "BROKEN", "SECOND", "LARGE", "TABLE", "CHECK", "OTHER"};
        seen.merge(call + " " + names[answer < 0 ? (int) -answer : 0], 1, Integer::sum);
    }

    private int below(int n) {
        return random.nextInt(n);
    }

    private boolean oneIn(int n) {
        return random.nextInt(n) == 0;
    }

    private int file() {
        return oneIn(12) ? below(7) - 2 : below(4);
    }

    private void due(String call, long got, long want) {
        calls++;
        Checks.due(run + ", call " + calls + ": " + call, got, want);
    }

    private void put(int file, long bytes, int n) {
        due("put " + file + " " + bytes + " " + n, ferry.put(file, bytes, n) ? 1 : 0, model.put(file, bytes, n) ? 1 : 0);
    }

    private void clear(int file) {
        due("clear " + file, ferry.clear(file), model.clear(file));
    }

    private void set(int file, int at, int b) {
        due("set " + file + " " + at + " " + b, ferry.set(file, at, b) ? 1 : 0, model.set(file, at, b) ? 1 : 0);
    }

    private void copy(int from, int to) {
        due("copy " + from + " " + to, ferry.copy(from, to) ? 1 : 0, model.copy(from, to) ? 1 : 0);
    }

    private void decode() {
        int want = model.decode();
        meet("decode", want);
        due("decode of " + model.files.get(2), ferry.decode(), want);
    }

    private void step() {
        int want = model.step();
        meet("step", want);
        due("step", ferry.step(), want);
    }

    private void encode(boolean checked) {
        int want = model.encode(checked);
        meet("encode", want);
        due("encode " + checked, ferry.encode(checked), want);
    }

    private void sameFile(int file) {
        due("size " + file, ferry.size(file), model.size(file));
        due("digest " + file, ferry.digest(file, 0), model.digest(file, 0));
        due("digest " + file, ferry.digest(file, 1 + below(3)), model.digest(file, 1));
    }

    private void samePlan() {
        int n = model.plan == null ? 0 : model.plan.size();
        for (int k = 0; k < 12; k++) {
            int i = oneIn(8) ? below(400) - 50 : n == 0 ? 0 : below(n);
            int what = oneIn(8) ? below(8) - 2 : below(4);
            due("instruction " + i + " " + what, ferry.instruction(i, what), model.instruction(i, what));
        }
    }

    private void wholePlan() {
        int n = model.plan == null ? 0 : model.plan.size();
        for (int i = 0; i <= n && calls < MOST_CALLS - 20; i++) {
            for (int what = 0; what < 4; what++) {
                due("instruction " + i + " " + what, ferry.instruction(i, what), model.instruction(i, what));
            }
        }
    }

    private void fill(int file, int[] bytes) {
        clear(file);
        for (int from = 0; from < bytes.length; from += 8) {
            int n = Math.min(8, bytes.length - from);
            long eight = random.nextLong() << 8 * n % 64;
            if (n == 8) {
                eight = 0;
            }
            for (int i = 0; i < n; i++) {
                eight |= (long) bytes[from + i] << (8 * i);
            }
            put(file, eight, n);
        }
    }

    private int[] someBytes(int n) {
        int letters = 1 + below(oneIn(3) ? 256 : 4);
        int[] bytes = new int[n];
        int place = 0;
        while (place < n) {
            int kind = below(4);
            int many = Math.min(n - place, 1 + below(kind == 0 ? 20 : 12));
            int b = below(letters);
            int from = place == 0 ? 0 : below(place);
            for (int i = 0; i < many; i++) {
                bytes[place] = kind == 0 ? b : kind == 1 && place > 0 ? bytes[from + i] : below(letters);
                place++;
            }
        }
        return bytes;
    }

    /** Bytes with much of others in them, moved about. */
    private int[] likeThose(int[] old, int n) {
        int[] bytes = new int[n];
        int place = 0;
        while (place < n) {
            int many = Math.min(n - place, 1 + below(40));
            int kind = below(5);
            int from = old.length == 0 ? 0 : below(old.length);
            int b = below(256);
            for (int i = 0; i < many; i++) {
                boolean fromOld = kind < 3 && from + i < old.length;
                bytes[place] = fromOld ? old[from + i] : kind == 3 ? b : below(256);
                place++;
            }
        }
        return bytes;
    }

    private void anyCalls() {
        for (int k = 0; k < 60; k++) {
            anyCall();
            if (calls > 440) {
                break;
            }
        }
        for (int file = 0; file < 4; file++) {
            sameFile(file);
        }
        samePlan();
    }

    private void anyCall() {
        switch (below(17)) {
            case 0:
            case 1:
                put(file(), random.nextLong(), oneIn(10) ? below(12) - 1 : 1 + below(8));
                break;
            case 2:
                int file = file();
                set(file, oneIn(5) ? below(720) - 10 : below(Math.max(1, model.size(file))), random.nextInt());
                break;
            case 3:
                copy(file(), file());
                break;
            case 4:
                if (oneIn(3)) {
                    clear(file());
                }
                break;
            case 5:
                int f = file();
                int i = below(310) - 5;
                due("at " + f + " " + i, ferry.at(f, i), model.at(f, i));
                break;
            case 6:
                int g = file();
                int half = below(4) - 1;
                due("digest " + g, ferry.digest(g, half), model.digest(g, half));
                break;
            case 7:
                anySum();
                break;
            case 8:
                int block = oneIn(6) ? below(80) - 5 : 4 + below(9);
                due("sign " + block, ferry.sign(block), model.sign(block));
                break;
            case 9:
                int window = anyWindow();
                due("scan " + window, ferry.scan(window), model.scan(window));
                samePlan();
                break;
            case 10:
                int chain = oneIn(8) ? below(24) - 3 : 1 + below(16);
                int w = anyWindow();
                due("differ " + chain + " " + w, ferry.differ(chain, w), model.differ(chain, w));
                samePlan();
                break;
            case 11:
                encode(oneIn(2));
                break;
            case 12:
                decode();
                break;
            case 13:
                int b = oneIn(6) ? below(80) - 5 : 4 + below(9);
                int wi = anyWindow();
                due("begin " + b + " " + wi, ferry.begin(b, wi) ? 1 : 0, model.begin(b, wi) ? 1 : 0);
                break;
            case 14:
            case 15:
                step();
                break;
            default:
                int[] old = someBytes(below(120));
                fill(0, old);
                fill(1, likeThose(old, below(120)));
        }
    }

    private int anyWindow() {
        return oneIn(8) ? below(300) - 10 : oneIn(2) ? 16 + below(16) : 16 + below(241);
    }

    private void anySum() {
        int file = file();
        int from = oneIn(3) ? 0 : oneIn(9) ? random.nextInt() : below(310) - 5;
        int n = oneIn(3) ? 0 : oneIn(9) ? random.nextInt() : below(310) - 5;
        due("sum " + file + " " + from + " " + n, ferry.sum(file, from, n), model.sum(file, from, n));
    }

    private void plans() {
        int[] old = someBytes(below(301));
        fill(0, old);
        fill(1, oneIn(4) ? someBytes(below(301)) : likeThose(old, below(301)));
        for (int k = 0; k < 8 && calls < MOST_CALLS - 25; k++) {
            int window = 16 + below(oneIn(2) ? 16 : 241);
            if (oneIn(2)) {
                int block = 4 + below(oneIn(3) ? 61 : 8);
                due("sign " + block, ferry.sign(block), model.sign(block));
                due("scan " + window, ferry.scan(window), model.scan(window));
            } else {
                int chain = 1 + below(16);
                due("differ " + chain + " " + window, ferry.differ(chain, window), model.differ(chain, window));
            }
            wholePlan();
            if (oneIn(4)) {
                set(0, below(300), below(256));
            }
            encode(oneIn(2));
            sameFile(2);
            decode();
            sameFile(3);
            step();
        }
    }

    private void deltas() {
        int[] old = someBytes(below(oneIn(2) ? 301 : 40));
        fill(0, old);
        Delta delta = new Delta(random, old);
        List<Integer> bytes = delta.make();
        if (bytes.size() > 700) {
            bytes = bytes.subList(0, 700);
        }
        fill(2, Checks.bytesOf(bytes));
        decode();
        if (delta.hasTable && model.decode() >= 0) {
            seen.merge("table used", 1, Integer::sum);
        }
        sameFile(3);
        for (int k = 0; k < 60 && calls < 480; k++) {
            int at = below(bytes.size());
            int was = bytes.get(at);
            set(2, at, oneIn(2) ? was ^ 1 << below(8) : oneIn(2) ? was + below(5) - 2 : below(256));
            decode();
            if (oneIn(8)) {
                sameFile(3);
            }
            if (!oneIn(10)) {
                set(2, at, was);
            }
        }
    }

    /** Makes bytes that are, most often, a delta. */
    private static final class Delta {
        private final Random random;
        private final int[] old;
        private int[][] codes = Model.codes();
        private int nears = 4;
        private int sames = 3;
        private final List<Integer> made = new ArrayList<>();
        boolean hasTable;

        Delta(Random random, int[] old) {
            this.random = random;
            this.old = old;
        }

        private int below(int n) {
            return n <= 0 ? 0 : random.nextInt(n);
        }

        List<Integer> make() {
            List<Integer> out = new ArrayList<>(List.of(214, 195, 196, 0));
            hasTable = below(2) == 0;
            out.add(hasTable ? 2 : 0);
            if (hasTable) {
                List<Integer> all = table();
                out.addAll(Model.number(all.size()));
                out.addAll(all);
            }
            int windows = below(5);
            for (int i = 0; i < windows; i++) {
                addWindow(out);
            }
            return out;
        }

        private List<Integer> table() {
            nears = below(9);
            sames = below(5);
            List<Integer> table = Model.tableBytes(codes);
            int changes = below(12);
            for (int i = 0; i < changes; i++) {
                int place = below(1536);
                table.set(place, place < 512 ? below(40) == 0 ? 4 : below(4) : below(20));
            }
            codes = Model.tableCodes(table);
            List<Integer> out = new ArrayList<>(List.of(nears, sames, 214, 195, 196, 0, 0));
            int cut = below(2) == 0 ? 1536 : below(1537);
            addTableWindow(out, table, 0, cut);
            if (cut < 1536) {
                addTableWindow(out, table, cut, 1536);
            }
            return out;
        }

        private void addTableWindow(List<Integer> out, List<Integer> table, int from, int end) {
            List<Integer> standard = Model.tableBytes(Model.codes());
            List<Integer> data = new ArrayList<>();
            List<Integer> told = new ArrayList<>();
            List<Integer> addresses = new ArrayList<>();
            int place = from;
            while (place < end) {
                int n = 0;
                boolean same = table.get(place).equals(standard.get(place));
                while (place + n < end && table.get(place + n).equals(standard.get(place + n)) == same) {
                    n++;
                }
                told.add(same ? 19 : 1);
                told.addAll(Model.number(n));
                if (same) {
                    addresses.addAll(Model.number(place));
                } else {
                    data.addAll(table.subList(place, place + n));
                }
                place += n;
            }
            addWhole(out, new int[] {1, 1536, 0}, table.subList(from, end), data, told, addresses);
        }

        private void addWhole(List<Integer> out, int[] source, List<Integer> bytes,
                List<Integer> data, List<Integer> told, List<Integer> addresses) {
            boolean checked = random.nextBoolean();
            out.add(source[0] + (checked ? 4 : 0));
            if (source[0] > 0) {
                out.addAll(Model.number(source[1]));
                out.addAll(Model.number(source[2]));
            }
            List<Integer> body = new ArrayList<>(Model.number(bytes.size()));
            body.add(0);
            body.addAll(Model.number(data.size()));
            body.addAll(Model.number(told.size()));
            body.addAll(Model.number(addresses.size()));
            long check = Model.check(bytes);
            for (int i = 3; i >= 0 && checked; i--) {
                body.add((int) (check >> 8 * i) & 255);
            }
            body.addAll(data);
            body.addAll(told);
            body.addAll(addresses);
            List<Integer> size = Model.number(body.size());
            // A number may have bytes more than it needs.
            for (int i = size.size(); i < 4 && below(8) == 0; i++) {
                size.add(0, 128);
            }
            out.addAll(size);
            out.addAll(body);
        }

        private void addWindow(List<Integer> out) {
            int kind = below(3);
            int whole = kind == 1 ? old.length : made.size();
            int size = kind == 0 ? 0 : below(whole + 1);
            int from = kind == 0 ? 0 : below(whole - size + 1);
            List<Integer> u = new ArrayList<>();
            for (int i = from; i < from + size; i++) {
                u.add(kind == 1 ? old[i] : made.get(i));
            }
            List<Integer> data = new ArrayList<>();
            List<Integer> told = new ArrayList<>();
            List<Integer> addresses = new ArrayList<>();
            Model.Rows rows = new Model.Rows(nears, sames);
            int many = below(9);
            for (int i = 0; i < many; i++) {
                int number = below(256);
                if (fits(codes[number], u.size())) {
                    told.add(number);
                    for (int k = 0; k < 2; k++) {
                        addInstruction(codes[number], k, u, data, told, addresses, rows);
                    }
                }
            }
            List<Integer> bytes = u.subList(size, u.size());
            addWhole(out, new int[] {kind, size, from}, bytes, data, told, addresses);
            made.addAll(new ArrayList<>(bytes));
        }

        private boolean fits(int[] code, int here) {
            for (int k = 0; k < 2; k++) {
                if (code[k] > 3 || code[k] == 3 && (here == 0 || code[4 + k] >= 2 + nears + sames)) {
                    return below(50) == 0 && code[k] <= 3;
                }
            }
            return true;
        }

        private void addInstruction(int[] code, int k, List<Integer> u, List<Integer> data,
                List<Integer> told, List<Integer> addresses, Model.Rows rows) {
            if (code[k] == 0) {
                return;
            }
            int n = code[2 + k];
            if (n == 0) {
                n = below(below(10) == 0 ? 90 : 20);
                told.addAll(Model.number(n));
            }
            if (code[k] == 1) {
                for (int i = 0; i < n; i++) {
                    data.add(below(256));
                }
                u.addAll(data.subList(data.size() - n, data.size()));
            } else if (code[k] == 2) {
                data.add(below(256));
                for (int i = 0; i < n; i++) {
                    u.add(data.get(data.size() - 1));
                }
            } else {
                int address = tell(code[4 + k], u.size(), addresses, rows);
                for (int i = 0; i < n; i++) {
                    u.add(address + i < u.size() ? u.get(address + i) : 0);
                }
            }
        }

        private int tell(int mode, int here, List<Integer> addresses, Model.Rows rows) {
            int address = below(here);
            if (mode == 0) {
                addresses.addAll(Model.number(address));
            } else if (mode == 1) {
                addresses.addAll(Model.number(here - address));
            } else if (mode < 2 + nears) {
                int near = rows.near[mode - 2];
                int number = below(here - near);
                addresses.addAll(Model.number(number));
                address = near + number;
            } else if (mode < 2 + nears + sames) {
                int x = below(3) == 0 ? below(256) : address % 256;
                addresses.add(x);
                address = rows.same[256 * (mode - 2 - nears) + x];
            }
            rows.told(address);
            return address;
        }
    }
}
