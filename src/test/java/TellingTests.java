/** Promises 11 to 16: what is told. */
final class TellingTests {
    private TellingTests() {
    }

    static void all(Checks c) {
        byteAtAndTaken(c);
        told(c);
        count(c);
        line(c);
        checks(c);
    }

    private static void byteAtAndTaken(Checks c) {
        c.test("promise 11: bytes as taken last, at the publisher as they stand", () -> {
            LinCluster x = eight();
            for (int i = 0; i < 8; i++) {
                c.equal("not taken yet", 0, x.byteAt(6, 33, i));
                c.equal("stands", 31 * i + 7, x.byteAt(5, 33, i));
            }
            Wire.until(x, Wire.HEADER + 89);
            c.equal("one bit ahead of the end", 0, x.byteAt(6, 33, 7));
            x.run(1);
            for (int i = 0; i < 8; i++) {
                c.equal("taken", 31 * i + 7, x.byteAt(6, 33, i));
            }
            x.write(33, 2, 1);
            c.equal("taken stays", 69, x.byteAt(6, 33, 2));
            c.equal("stands anew", 1, x.byteAt(5, 33, 2));
        });
        c.test("promise 11: illegal arguments", () -> {
            LinCluster x = eight();
            x.frame(34, 3, 5, true);
            x.listen(6, 34, true);
            c.argument("node -1", () -> x.byteAt(-1, 33, 0));
            c.argument("node 8", () -> x.byteAt(8, 33, 0));
            c.argument("no frame", () -> x.byteAt(6, 32, 0));
            c.argument("id -1", () -> x.byteAt(6, -1, 0));
            c.argument("id 62", () -> x.byteAt(6, 62, 0));
            c.argument("byte -1", () -> x.byteAt(6, 34, -1));
            c.argument("byte 3", () -> x.byteAt(6, 34, 3));
            c.argument("byte 3 at the publisher", () -> x.byteAt(5, 34, 3));
            c.argument("neither", () -> x.byteAt(1, 33, 0));
        });
        c.test("promise 11: who listened no more has nothing, at its publisher it stands all the time", () -> {
            LinCluster x = eight();
            x.run(130);
            x.listen(6, 33, false);
            c.argument("byteAt", () -> x.byteAt(6, 33, 0));
            c.argument("taken", () -> x.taken(6, 33));
            c.equal("the other listener", 7, x.byteAt(0, 33, 0));
            c.equal("the publisher", 7, x.byteAt(5, 33, 0));
        });
        c.test("promise 11: at its publisher without the status bit that it says", () -> {
            LinCluster x = eight();
            x.status(5, 33, 0, 7);
            x.disturb(Wire.HEADER, 1);
            x.run(260);
            c.equal("taken with it", 135, x.byteAt(6, 33, 0));
            c.equal("stands without", 7, x.byteAt(5, 33, 0));
        });
        c.test("promise 11: eight bytes of 255", () -> {
            LinCluster x = eight();
            for (int i = 0; i < 8; i++) {
                x.write(33, i, 255);
            }
            x.run(130);
            for (int i = 0; i < 8; i++) {
                c.equal("byte " + i, 510, x.byteAt(6, 33, i) + x.byteAt(5, 33, i));
            }
        });
        c.test("promise 12: how often", () -> {
            LinCluster x = eight();
            c.equal("at first", 0, x.taken(6, 33));
            Wire.until(x, Wire.HEADER + 89);
            c.equal("one bit ahead of the end", 0, x.taken(6, 33));
            x.run(1);
            c.equal("once", 1, x.taken(6, 33));
            Wire.until(x, 520);
            c.equal("four times", 4, x.taken(6, 33));
            c.equal("its publisher never", 0, x.taken(5, 33));
            c.equal("another listener", 4, x.taken(0, 33));
        });
        c.test("promise 12: illegal arguments", () -> {
            LinCluster x = eight();
            c.argument("node -1", () -> x.taken(-1, 33));
            c.argument("node 8", () -> x.taken(8, 33));
            c.argument("no frame", () -> x.taken(6, 32));
            c.argument("id -1", () -> x.taken(6, -1));
            c.argument("id 62", () -> x.taken(6, 62));
            c.argument("neither", () -> x.taken(1, 33));
        });
        c.test("promise 12: each frame by itself", () -> {
            LinCluster x = new LinCluster();
            x.frame(3, 1, 5, true);
            x.frame(4, 1, 5, true);
            x.listen(6, 3, true);
            x.listen(6, 4, true);
            x.slot(3, 60);
            x.slot(3, 60);
            x.slot(4, 60);
            x.run(180);
            c.equal("3", 2, x.taken(6, 3));
            c.equal("4", 1, x.taken(6, 4));
            c.equal("all", 3, x.told(6, 4));
        });
    }

    /** Frame 33 of node 5 with eight bytes, every 130 bit times; nodes 0 and 6 listen. */
    private static LinCluster eight() {
        LinCluster x = new LinCluster();
        x.frame(33, 8, 5, true);
        for (int i = 0; i < 8; i++) {
            x.write(33, i, 31 * i + 7);
        }
        x.listen(0, 33, true);
        x.listen(6, 33, true);
        x.slot(33, 130);
        return x;
    }

    private static void told(Checks c) {
        c.test("promise 13: what a node is at, bit by bit", () -> {
            LinCluster x = new LinCluster();
            x.frame(7, 1, 2, true);
            x.listen(3, 7, true);
            x.slot(7, 60);
            StringBuilder publisher = new StringBuilder();
            StringBuilder listener = new StringBuilder();
            StringBuilder neither = new StringBuilder();
            for (int i = 0; i < 60; i++) {
                x.run(1);
                publisher.append(x.told(2, 6));
                listener.append(x.told(3, 6));
                neither.append(x.told(4, 6));
            }
            String header = "1".repeat(10) + "222" + "3".repeat(20);
            c.equal("publisher", header + "4".repeat(20) + "1".repeat(7), publisher.toString());
            c.equal("listener", header + "5".repeat(20) + "1".repeat(7), listener.toString());
            c.equal("neither", header + "1".repeat(27), neither.toString());
        });
        c.test("promise 13: the counts", () -> {
            LinCluster x = new LinCluster();
            x.frame(7, 1, 2, true);
            x.listen(3, 7, true);
            x.slot(7, 60);
            x.run(60);
            c.equal("said", 1, x.told(2, 3));
            c.equal("the publisher took none", 0, x.told(2, 4));
            c.equal("taken", 1, x.told(3, 4));
            c.equal("the listener said none", 0, x.told(3, 3));
            x.disturb(Wire.HEADER + 9, 0);
            x.run(60);
            c.equal("error of the publisher", 11, 10 * x.told(2, 1) + x.told(2, 5));
            c.equal("error of the listener", 11, 10 * x.told(3, 1) + x.told(3, 5));
            c.equal("no error of the others", 0, 10 * x.told(4, 1) + x.told(4, 5));
            x.disturb(Wire.HEADER + 9, 0);
            x.run(60);
            c.equal("another error of the publisher", 12, 10 * x.told(2, 1) + x.told(2, 5));
            c.equal("another error of the listener", 12, 10 * x.told(3, 1) + x.told(3, 5));
            x.disturb(20, 0);
            x.disturb(21, 0);
            x.run(60);
            for (int node = 0; node < 8; node++) {
                c.equal("header lost", 1, x.told(node, 2));
            }
            c.equal("said still", 1, x.told(2, 3));
            c.equal("taken still", 1, x.told(3, 4));
        });
        c.test("promise 13: illegal arguments", () -> {
            LinCluster x = new LinCluster();
            c.argument("node -1", () -> x.told(-1, 0));
            c.argument("node 8", () -> x.told(8, 0));
            c.argument("what -1", () -> x.told(0, -1));
            c.argument("what 7", () -> x.told(0, 7));
        });
    }

    private static void count(Checks c) {
        c.test("promise 14: slots at hand and begun", () -> {
            LinCluster x = new LinCluster();
            x.frame(7, 1, 2, true);
            x.slot(7, 50);
            x.slot(7, 51);
            x.slot(7, 52);
            c.equal("none yet", LinCluster.NONE, x.count(1));
            c.equal("none begun", 0, x.count(2));
            int begins = 0;
            for (int i = 0; i < 7; i++) {
                Wire.until(x, begins + 1);
                c.equal("at hand", i % 3, x.count(1));
                c.equal("begun", i + 1, x.count(2));
                begins += 50 + i % 3;
                Wire.until(x, begins);
                c.equal("at hand to its end", i % 3, x.count(1));
                c.equal("begun till then", i + 1, x.count(2));
            }
        });
        c.test("promise 14: no slot at hand before the first, asleep, and ahead of the next waking's slot", () -> {
            LinCluster x = new LinCluster();
            x.frame(60, 1, 0, false);
            c.equal("without one", LinCluster.NONE, x.count(1));
            x.slot(60, 60);
            c.equal("not begun", LinCluster.NONE, x.count(1));
            x.run(Wire.HEADER + 19);
            c.equal("at hand", 0, x.count(1));
            x.run(1);
            c.equal("asleep", LinCluster.NONE, x.count(1));
            x.wake(0);
            x.run(9);
            c.equal("awake", LinCluster.NONE, x.count(1));
            x.run(50);
            c.equal("50 bit times passed", LinCluster.NONE, x.count(1));
            x.run(1);
            c.equal("at hand again", 0, x.count(1));
        });
        c.test("promise 14: TIME, disturbings and illegal arguments", () -> {
            LinCluster x = new LinCluster();
            x.run(7);
            x.disturb(3, 1);
            c.equal("TIME", 7, x.count(0));
            c.equal("to come", 1, x.count(3));
            x.run(3);
            c.equal("still to come", 1, x.count(3));
            x.run(1);
            c.equal("came", 0, x.count(3));
            c.argument("what -1", () -> x.count(-1));
            c.argument("what 4", () -> x.count(4));
        });
    }

    private static void line(Checks c) {
        c.test("promise 15: 64 bits back, 1 before all", () -> {
            for (int time = 0; time <= 65; time++) {
                LinCluster x = new LinCluster();
                x.disturb(0, 0);
                Wire.pass(x, time);
                for (int back = 1; back <= 64; back++) {
                    c.equal("at " + time + " back " + back, back == time ? 0 : 1, x.line(back));
                }
            }
        });
        c.test("promise 15: the nearest and the farthest bit", () -> {
            LinCluster x = new LinCluster();
            x.disturb(0, 0);
            x.disturb(63, 0);
            x.run(64);
            c.equal("1 back", 0, x.line(1));
            c.equal("2 back", 1, x.line(2));
            c.equal("63 back", 1, x.line(63));
            c.equal("64 back", 0, x.line(64));
            x.run(1);
            c.equal("1 back, later", 1, x.line(1));
            c.equal("64 back, later", 1, x.line(64));
        });
        c.test("promise 15: 64 zeros and no more", () -> {
            LinCluster x = new LinCluster();
            Wire.force(x, 0, "0".repeat(64));
            x.run(64);
            for (int back = 1; back <= 64; back++) {
                c.equal("back " + back, 0, x.line(back));
            }
        });
        c.test("promise 15: illegal arguments", () -> {
            LinCluster x = new LinCluster();
            c.argument("back 0", () -> x.line(0));
            c.argument("back 65", () -> x.line(65));
            c.argument("back -1", () -> x.line(-1));
        });
    }

    private static void checks(Checks c) {
        c.test("promise 16: the PID of each ID", () -> {
            LinCluster x = new LinCluster();
            for (int id = 0; id < 62; id++) {
                x.frame(id, 1, 0, false);
                c.equal("PID of " + id, Wire.PIDS[id], x.checks(id) & 255);
            }
        });
        c.test("promise 16: checksums by hand", () -> {
            LinCluster x = new LinCluster();
            x.frame(10, 4, 1, true);
            x.frame(11, 4, 1, false);
            int[] bytes = {0x4A, 0x55, 0x93, 0xE5};
            for (int i = 0; i < 4; i++) {
                x.write(10, i, bytes[i]);
                x.write(11, i, bytes[i]);
            }
            // The LIN standard's own example: 4A 55 93 E5 has the classic checksum E6.
            c.equal("classic", 0x8B + 256 * 0xE6, x.checks(11));
            c.equal("enhanced", 0xCA + 256 * 0x1C, x.checks(10));
        });
        c.test("promise 16: sums of just 255 and 256", () -> {
            LinCluster x = new LinCluster();
            x.frame(11, 3, 1, false);
            x.write(11, 0, 250);
            x.write(11, 1, 5);
            c.equal("255 stays", 0x8B, x.checks(11));
            x.write(11, 1, 6);
            c.equal("256 is 1", 0x8B + 256 * 254, x.checks(11));
            x.write(11, 1, 255);
            x.write(11, 2, 255);
            c.equal("765 less 510, less 5", 0x8B + 256 * 5, x.checks(11));
        });
        c.test("promise 16: the bytes as they stand now, the status bit as they have it", () -> {
            LinCluster x = new LinCluster();
            x.frame(11, 1, 1, false);
            x.status(1, 11, 0, 0);
            x.write(11, 0, 9);
            x.slot(11, 60);
            c.equal("no error, bit 1", 0x8B + 256 * 246, x.checks(11));
            x.run(Wire.HEADER + 5);
            x.write(11, 0, 8);
            x.disturb(4, 0);
            x.run(1);
            x.run(4);
            c.equal("an error", 1, x.told(1, 1));
            c.equal("an error, bit 0", 0x8B + 256 * 247, x.checks(11));
        });
        c.test("promise 16: illegal arguments", () -> {
            LinCluster x = new LinCluster();
            x.frame(11, 1, 1, false);
            c.argument("no frame", () -> x.checks(10));
            c.argument("id -1", () -> x.checks(-1));
            c.argument("id 62", () -> x.checks(62));
        });
    }
}
