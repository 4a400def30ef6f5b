import java.util.Random;

/** Random runs, the same each time, on a LinCluster and on the Model. */
final class ModelTests {
    private static final int RUNS = 400;
    private static final int CALLS = 400;
    /** What an object answers behind its 512th call is free. */
    private static final int MOST_CALLS = 512;
    private static final int[] IDS = {0, 1, 7, 59, 60, 60, 61};

    private final Checks c;
    private final Random random;
    private final LinCluster x = new LinCluster();
    private final Model model = new Model();
    private final StringBuilder calls = new StringBuilder();
    private int called = 0;
    private boolean differs = false;

    private ModelTests(Checks c, long seed) {
        this.c = c;
        this.random = new Random(seed);
    }

    interface Asked {
        String go();
    }

    static void all(Checks c) {
        c.test("random runs answer as the model does", () -> {
            for (int run = 0; run < RUNS; run++) {
                new ModelTests(c, run).go();
            }
        });
        c.test("random runs with few slots and much quiet", () -> {
            for (int run = 0; run < 40; run++) {
                new ModelTests(c, 100000 + run).goQuiet();
            }
        });
    }

    private void go() {
        make();
        for (int i = 0; i < CALLS && goesOn(); i++) {
            int kind = random.nextInt(100);
            if (kind < 45) {
                ask();
            } else if (kind < 70) {
                run(1 + random.nextInt(kind < 60 ? 30 : 150));
            } else if (kind < 88) {
                disturb();
            } else {
                change();
            }
        }
    }

    private void goQuiet() {
        if (random.nextBoolean()) {
            make();
        }
        for (int i = 0; i < 150 && goesOn(); i++) {
            int kind = random.nextInt(100);
            if (kind < 50) {
                ask();
            } else if (kind < 65) {
                run(1 + random.nextInt(kind < 55 ? 2000 : 60));
            } else if (kind < 80) {
                disturb();
            } else {
                change();
            }
        }
    }

    private boolean goesOn() {
        return !differs && called < MOST_CALLS;
    }

    private int near(int least, int most) {
        int kind = random.nextInt(60);
        return kind == 0 ? least - 1 : kind == 1 ? most + 1 : least + random.nextInt(most - least + 1);
    }

    private int id() {
        return random.nextInt(40) == 0 ? near(0, 61) : IDS[random.nextInt(IDS.length)];
    }

    private int node() {
        return random.nextInt(10) == 0 ? near(0, 7) : random.nextInt(4);
    }

    private void make() {
        for (int i = 0; i < 6; i++) {
            int id = id();
            int length = near(1, random.nextInt(4) == 0 ? 8 : 3);
            int publisher = node();
            boolean enhanced = random.nextBoolean();
            same("frame(" + id + "," + length + "," + publisher + "," + enhanced + ")",
                    () -> {
                        x.frame(id, length, publisher, enhanced);
                        return "";
                    }, model.frame(id, length, publisher, enhanced));
        }
        for (int i = 0; i < 25; i++) {
            change();
        }
        int slots = random.nextInt(20) == 0 ? 17 : random.nextInt(5);
        for (int i = 0; i < slots * 2; i++) {
            int id = id();
            int bits = near(50, random.nextInt(5) == 0 ? 400 : 100);
            same("slot(" + id + "," + bits + ")", () -> "" + x.slot(id, bits), model.slot(id, bits));
        }
    }

    private void run(int n) {
        same("run(" + n + ")", () -> "" + x.run(n), model.run(n));
    }

    private void disturb() {
        int behind = near(0, random.nextInt(4) == 0 ? 4000 : 100);
        int bit = random.nextInt(40) == 0 ? 2 : random.nextInt(2);
        int times = random.nextInt(6) == 0 ? 1 + random.nextInt(14) : 1;
        for (int i = 0; i < times; i++) {
            int place = behind + i;
            same("disturb(" + place + "," + bit + ")", () -> {
                x.disturb(place, bit);
                return "";
            }, model.disturb(place, bit));
        }
    }

    private void change() {
        int node = node();
        int id = id();
        int some = near(0, 8);
        int bit = near(0, 7);
        switch (random.nextInt(8)) {
            case 0:
                same("space(" + node + "," + some + ")", () -> "" + x.space(node, some), model.space(node, some));
                break;
            case 1:
            case 2:
                int v = random.nextInt(3) == 0 ? 0 : near(0, 255);
                int i = random.nextInt(3) == 0 ? near(0, 8) : 0;
                same("write(" + id + "," + i + "," + v + ")", () -> "" + x.write(id, i, v), model.write(id, i, v));
                break;
            case 3:
                int place = random.nextInt(3) == 0 ? near(0, 8) : 0;
                same("status(" + node + "," + id + "," + place + "," + bit + ")", () -> {
                    x.status(node, id, place, bit);
                    return "";
                }, model.status(node, id, place, bit));
                break;
            case 4:
                if (random.nextInt(3) == 0) {
                    same("wake(" + node + ")", () -> {
                        x.wake(node);
                        return "";
                    }, model.wake(node));
                }
                break;
            default:
                boolean on = random.nextInt(4) > 0;
                same("listen(" + node + "," + id + "," + on + ")", () -> x.listen(node, id, on) ? "1" : "0",
                        model.listen(node, id, on));
                break;
        }
    }

    private void ask() {
        int node = node();
        int id = id();
        int i = random.nextInt(3) == 0 ? near(0, 8) : 0;
        int what = near(0, 6);
        int which = near(0, 3);
        int back = near(1, 64);
        switch (random.nextInt(8)) {
            case 0:
                same("byteAt(" + node + "," + id + "," + i + ")", () -> "" + x.byteAt(node, id, i),
                        model.byteAt(node, id, i));
                break;
            case 1:
                same("taken(" + node + "," + id + ")", () -> "" + x.taken(node, id), model.taken(node, id));
                break;
            case 2:
                same("count(" + which + ")", () -> "" + x.count(which), model.count(which));
                break;
            case 3:
                same("line(" + back + ")", () -> "" + x.line(back), model.line(back));
                break;
            case 4:
                same("checks(" + id + ")", () -> "" + x.checks(id), model.checks(id));
                break;
            default:
                same("told(" + node + "," + what + ")", () -> "" + x.told(node, what), model.told(node, what));
                break;
        }
    }

    private void same(String call, Asked asked, String due) {
        called++;
        if (called > MOST_CALLS) {
            return;
        }
        calls.append(' ').append(call);
        String[] got = new String[1];
        String thrown = Checks.thrownBy(() -> got[0] = asked.go());
        String answer = got[0] == null ? thrown : got[0];
        if (!answer.equals(due) && !differs) {
            differs = true;
            c.equal("the last of" + calls, due, answer);
        }
    }
}
