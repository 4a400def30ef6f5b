/** The document's MASTER'S SCHEDULE: slots, their edges and their order. */
final class ScheduleTests {
    private ScheduleTests() {
    }

    static void all(Checks c) {
        lengths(c);
        order(c);
        headers(c);
    }

    private static LinCluster withFrame(int id, int length) {
        LinCluster x = new LinCluster();
        x.frame(id, length, 2, false);
        return x;
    }

    private static void lengths(Checks c) {
        c.test("a slot: 50 bit times are the least, 400 the most, and it takes just so many", () -> {
            for (int bits : new int[] {50, 51, 399, 400}) {
                LinCluster x = withFrame(7, 1);
                x.slot(7, bits);
                // In a slot of 50 the response is not over: its publisher is made to stop.
                x.disturb(Wire.HEADER, 1);
                Wire.until(x, bits);
                c.equal("the first of " + bits, 1, x.count(2));
                c.equal("silent", 1, x.line(1));
                x.run(1);
                c.equal("the second of " + bits, 2, x.count(2));
                c.equal("its first bit", 0, x.line(1));
            }
        });
        c.test("a slot: one alone begins again and again", () -> {
            LinCluster x = withFrame(7, 1);
            x.slot(7, 60);
            for (int i = 0; i < 9; i++) {
                c.equal("begun", i, x.count(2));
                c.equal("its header", Wire.header(7), Wire.heard(x, Wire.HEADER));
                c.equal("at hand", 0, x.count(1));
                Wire.until(x, 60 * (i + 1));
            }
        });
        c.test("a slot: if it ends before the response does, the next one begins all the same", () -> {
            LinCluster x = withFrame(7, 8);
            x.frame(8, 1, 3, false);
            x.listen(4, 8, true);
            x.slot(7, 50);
            x.slot(8, 60);
            x.write(7, 0, 255);
            x.write(7, 1, 255);
            x.run(50);
            c.equal("still says", 4, x.told(2, 6));
            x.run(1);
            c.equal("slot 1", 1, x.count(1));
            c.equal("its publisher met a 0", 11, 10 * x.told(2, 6) + x.told(2, 5));
            Wire.until(x, 110);
            c.equal("the next response is taken", 1, x.taken(4, 8));
        });
    }

    private static void order(Checks c) {
        c.test("the schedule: without slots none is at hand and none begins", () -> {
            LinCluster x = withFrame(7, 1);
            for (int i = 0; i < 5; i++) {
                c.equal("at hand", LinCluster.NONE, x.count(1));
                c.equal("begun", 0, x.count(2));
                x.run(100);
            }
            c.equal("the line", 1, x.line(1));
        });
        c.test("the schedule: 16 slots in their order, then 0 again", () -> {
            LinCluster x = new LinCluster();
            for (int i = 0; i < 16; i++) {
                x.frame(3 * i, 1, 2, false);
                c.equal("its number", i, x.slot(3 * i, 60 + i));
            }
            int begins = 0;
            for (int i = 0; i < 20; i++) {
                Wire.until(x, begins + 1);
                c.equal("at hand", i % 16, x.count(1));
                c.equal("begun", i + 1, x.count(2));
                Wire.until(x, begins + Wire.HEADER);
                int pid = 0;
                for (int bit = 0; bit < 8; bit++) {
                    pid |= x.line(9 - bit) << bit;
                }
                c.equal("its PID", Wire.PIDS[3 * (i % 16)], pid);
                begins += 60 + i % 16;
                Wire.until(x, begins);
                c.equal("at hand to its end", i % 16, x.count(1));
            }
        });
        c.test("the schedule: slot 0 begins in TIME 0", () -> {
            LinCluster x = withFrame(7, 1);
            x.slot(7, 60);
            c.equal("none yet", LinCluster.NONE, x.count(1));
            x.run(1);
            c.equal("at hand", 0, x.count(1));
            c.equal("its first bit", 0, x.line(1));
        });
        c.test("the schedule: the same frame in many slots", () -> {
            LinCluster x = withFrame(7, 1);
            x.listen(3, 7, true);
            for (int i = 0; i < 16; i++) {
                x.slot(7, 60);
            }
            x.run(960);
            c.equal("taken in each", 16, x.taken(3, 7));
        });
        c.test("the schedule: none while the master is asleep, however long", () -> {
            LinCluster x = new LinCluster();
            x.frame(60, 1, 0, false);
            x.slot(60, 60);
            x.run(Wire.HEADER + 19);
            c.equal("at hand", 0, x.count(1));
            x.run(1);
            c.equal("none at hand", LinCluster.NONE, x.count(1));
            for (int i = 0; i < 5; i++) {
                x.run(2000);
                c.equal("begun", 1, x.count(2));
                c.equal("none at hand", LinCluster.NONE, x.count(1));
            }
        });
    }

    private static void headers(Checks c) {
        c.test("a header: 13 bits 0, one 1, the character of 85, that of the PID, then nothing", () -> {
            LinCluster x = new LinCluster();
            // Nobody answers: the publisher took the sleep order and is not awake.
            x.frame(60, 1, 2, false);
            x.frame(7, 1, 2, false);
            x.slot(60, 60);
            x.slot(7, 120);
            Wire.until(x, 60);
            c.equal("asleep", 0, x.told(2, 0));
            c.equal("the line", "0".repeat(13) + "1" + "0101010101" + Wire.character(0x47) + "1".repeat(86),
                    Wire.heard(x, 120));
        });
        c.test("a header: it is said to its end, whatever the line is", () -> {
            LinCluster x = withFrame(7, 1);
            x.slot(7, 60);
            Wire.force(x, 0, "1".repeat(20));
            c.equal("the line", "1".repeat(20) + Wire.header(7).substring(20), Wire.heard(x, Wire.HEADER));
        });
        c.test("a header: also while its own master waits in a lost one", () -> {
            LinCluster x = withFrame(7, 1);
            x.slot(7, 60);
            x.disturb(15, 0);
            x.disturb(75, 0);
            x.run(24);
            c.equal("lost", 1, x.told(0, 2));
            Wire.until(x, 60);
            c.equal("the next one", Wire.header(7).substring(0, 15) + "0", Wire.heard(x, 16));
            x.run(44);
            c.equal("lost anew", 2, x.told(0, 2));
            c.equal("both slots began", 2, x.count(2));
        });
    }
}
