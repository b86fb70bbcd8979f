import java.util.Random;

/**
 * Runs of random calls, with many cuts: every answer is the model's, and at the end of a run the
 * whole disk is. The runs end anywhere, so the disk is looked at in every kind of moment.
 */
public final class RandomRunsTest {
    private static final int RUNS = 40000;
    private static final int PLACES = 80;
    // No object gets more than the 512 calls for which the document speaks.
    private static final int CALLS_AT_MOST = 512 - PLACES - 3;

    private final Checks checks;
    private final Random random;
    private final boolean wide;
    private final StripedKeyVolume x = new StripedKeyVolume();
    private final Model model = new Model();

    private RandomRunsTest(Checks checks, int run) {
        this.checks = checks;
        random = new Random(run);
        wide = run % 2 == 1;
    }

    public static void main(String[] args) {
        Checks checks = new Checks("RandomRunsTest");
        for (int run = 0; run < RUNS; run++) {
            checks.part("run " + run);
            new RandomRunsTest(checks, run).run();
        }
        checks.end();
    }

    private void run() {
        int calls = random.nextInt(CALLS_AT_MOST + 1);
        for (int call = 0; call < calls; call++) {
            call();
        }
        due("state()", x.state(), model.state);
        due("slots()", x.slots(), model.slots());
        due("writes()", x.writes(), model.writes);
        for (int place = 0; place < PLACES; place++) {
            due("peek", x.peek(place), model.peek(place));
        }
    }

    private void call() {
        switch (random.nextInt(24)) {
            case 0, 1 -> cut();
            case 2, 3 -> due("mount()", x.mount(), model.mount());
            case 4, 5, 6, 7 -> unlock();
            case 8 -> lock();
            case 9, 10 -> add();
            case 11, 12 -> change();
            case 13, 14 -> revoke();
            case 15, 16, 17 -> write();
            case 18, 19 -> read();
            case 20, 21 -> look();
            default -> format();
        }
    }

    private void cut() {
        int n = random.nextInt(8) == 0 ? random.nextInt(100) - 3 : random.nextInt(40) - 2;
        checks.due("cut", x.cut(n), model.cut(n));
    }

    private void format() {
        // Seldom on a volume, so that runs get past it.
        if (model.state != 0 && random.nextInt(8) != 0) {
            read();
            return;
        }
        int a = random.nextInt();
        int b = random.nextInt();
        int p = passphrase();
        int g = random.nextInt();
        due("format", x.format(a, b, p, g), model.format(a, b, p, g));
    }

    private void unlock() {
        int p = passphrase();
        due("unlock", x.unlock(p), model.unlock(p));
    }

    // Seldom, as most calls want an OPEN device.
    private void lock() {
        if (random.nextInt(3) == 0) {
            due("lock", x.lock(), model.lock());
        }
    }

    private void add() {
        int p = passphrase();
        int g = random.nextInt();
        due("add", x.add(p, g), model.add(p, g));
    }

    private void change() {
        int k = near(4);
        int p = passphrase();
        int g = random.nextInt();
        due("change", x.change(k, p, g), model.change(k, p, g));
    }

    private void revoke() {
        int k = near(4);
        due("revoke", x.revoke(k), model.revoke(k));
    }

    private void write() {
        int s = near(8);
        int i = near(4);
        int v = random.nextInt();
        due("write", x.write(s, i, v), model.write(s, i, v));
    }

    private void read() {
        int s = near(8);
        int i = near(4);
        due("read", x.read(s, i), model.read(s, i));
    }

    private void look() {
        int place = near(PLACES);
        switch (random.nextInt(4)) {
            case 0 -> due("state", x.state(), model.state);
            case 1 -> due("slots", x.slots(), model.slots());
            case 2 -> due("writes", x.writes(), model.writes);
            default -> due("peek", x.peek(place), model.peek(place));
        }
    }

    /** Few ones, so that many of them open a slot. */
    private int passphrase() {
        return random.nextInt(3) * (wide ? 1234567891 : 1);
    }

    private int near(int count) {
        if (random.nextInt(30) == 0) {
            return random.nextInt();
        }
        return random.nextInt(6) == 0 ? random.nextInt(count + 2) - 1 : random.nextInt(count);
    }

    private void due(String call, long got, long want) {
        checks.due(call, got, want);
    }
}
