/** The document's Terms: who and what there is, the line, characters, PIDs and checksums at their edges. */
final class TermsTests {
    /** Not 0, as frame 60 with 0 would send nodes to sleep. */
    private static final int FIRST_BYTE = 90;

    private TermsTests() {
    }

    static void all(Checks c) {
        nodesAndFrames(c);
        line(c);
        checksums(c);
    }

    private static void nodesAndFrames(Checks c) {
        c.test("terms: each node 0 .. 7 publishes, and each other one takes it", () -> {
            for (int publisher = 0; publisher < 8; publisher++) {
                LinCluster x = new LinCluster();
                x.frame(7, 1, publisher, true);
                x.write(7, 0, FIRST_BYTE);
                listenAll(x, 7, publisher);
                x.slot(7, 60);
                x.run(60);
                for (int node = 0; node < 8; node++) {
                    c.equal("said by " + node, node == publisher ? 1 : 0, x.told(node, 3));
                    c.equal("taken by " + node, node == publisher ? 0 : 1, x.taken(node, 7));
                    c.equal("byte at " + node, FIRST_BYTE, x.byteAt(node, 7, 0));
                }
            }
        });
        c.test("terms: each ID 0 .. 61 has its header, its response and its listener", () -> {
            for (int id = 0; id < 62; id++) {
                LinCluster x = new LinCluster();
                x.frame(id, 1, 1, true);
                x.listen(6, id, true);
                x.write(id, 0, FIRST_BYTE);
                x.slot(id, 60);
                int checksum = x.checks(id) >> 8;
                String due = Wire.header(id) + Wire.characters(FIRST_BYTE, checksum);
                c.equal("the line of " + id, due, Wire.heard(x, due.length()));
                c.equal("taken of " + id, 1, x.taken(6, id));
            }
        });
        c.test("terms: all 62 frames in one cluster, each with its own bytes", () -> {
            LinCluster x = new LinCluster();
            for (int id = 0; id < 62; id++) {
                x.frame(id, 1 + id % 8, id % 8, false);
                x.write(id, id % 8, 4 * id);
            }
            for (int id = 0; id < 62; id++) {
                c.equal("byte of " + id, 4 * id, x.byteAt(id % 8, id, id % 8));
                c.equal("checks of " + id, Wire.PIDS[id] + 256 * (255 - 4 * id), x.checks(id));
            }
        });
        c.test("terms: a length of 1 and of 8 is taken to its last byte", () -> {
            for (int length = 1; length <= 8; length += 7) {
                LinCluster x = new LinCluster();
                x.frame(7, length, 2, true);
                x.listen(3, 7, true);
                x.write(7, length - 1, 255);
                x.slot(7, 140);
                x.run(Wire.HEADER + 10 * (length + 1) - 1);
                c.equal("not yet", 0, x.taken(3, 7));
                x.run(1);
                c.equal("taken", 1, x.taken(3, 7));
                c.equal("its last byte", 255, x.byteAt(3, 7, length - 1));
            }
        });
        c.test("terms: bytes are 0 at first, at the publisher and at who listens, and nothing is taken", () -> {
            LinCluster x = new LinCluster();
            x.frame(7, 8, 2, true);
            listenAll(x, 7, 2);
            for (int node = 0; node < 8; node++) {
                c.equal("takings at " + node, 0, x.taken(node, 7));
                for (int i = 0; i < 8; i++) {
                    c.equal("byte " + i + " at " + node, 0, x.byteAt(node, 7, i));
                }
            }
        });
        c.test("terms: 60 and 61 are classic on the line, too, 59 is as it was told", () -> {
            for (int id = 59; id < 62; id++) {
                LinCluster x = new LinCluster();
                x.frame(id, 1, 1, true);
                x.listen(6, id, true);
                Wire.force(x, 0, Wire.header(id) + Wire.characters(FIRST_BYTE, 255 - FIRST_BYTE));
                x.run(Wire.HEADER + 20);
                c.equal("a classic checksum of " + id, id == 59 ? 0 : 1, x.taken(6, id));
                c.equal("an error at " + id, id == 59 ? 1 : 0, x.told(6, 5));
            }
        });
    }

    private static void listenAll(LinCluster x, int id, int publisher) {
        for (int node = 0; node < 8; node++) {
            if (node != publisher) {
                x.listen(node, id, true);
            }
        }
    }

    private static void line(Checks c) {
        c.test("the line: 1, if nobody says 0", () -> {
            LinCluster x = new LinCluster();
            x.frame(7, 1, 2, true);
            c.equal("without a slot", "1".repeat(100), Wire.heard(x, 100));
        });
        c.test("the line: the least of a header, a response and a waking", () -> {
            LinCluster x = new LinCluster();
            x.frame(7, 1, 2, false);
            x.write(7, 0, 255);
            x.slot(7, 60);
            x.run(12);
            x.wake(5);
            // The header's last 0 of its break, its 1 and the first bits of 85 lie under the eight bits of waking.
            c.equal("a waking in a header", "00000000" + Wire.header(7).substring(20), Wire.heard(x, 22));
            c.equal("all nodes met the break later", 1, x.told(0, 2));
        });
        c.test("the line: two who wake say no less than one", () -> {
            LinCluster x = new LinCluster();
            x.wake(0);
            x.wake(7);
            c.equal("eight zeros", "0000000011", Wire.heard(x, 10));
        });
        c.test("the line: where it is disturbed it is that, whoever says 0 or 1", () -> {
            LinCluster x = new LinCluster();
            for (int node = 0; node < 8; node++) {
                x.wake(node);
            }
            x.disturb(0, 1);
            x.disturb(7, 1);
            x.disturb(8, 0);
            x.disturb(9, 1);
            c.equal("the line", "10000001" + "011", Wire.heard(x, 11));
        });
        c.test("a character: 0, eight bits, the lowest first, 1", () -> {
            for (int value = 0; value < 256; value++) {
                LinCluster x = new LinCluster();
                x.frame(61, 1, 2, false);
                x.listen(3, 61, true);
                x.write(61, 0, value);
                x.slot(61, 60);
                x.run(Wire.HEADER);
                c.equal("of " + value, Wire.characters(value, 255 - value), Wire.heard(x, 20));
                c.equal("taken as " + value, value, x.byteAt(3, 61, 0));
            }
        });
    }

    private static void checksums(Checks c) {
        c.test("the checksum: a sum of 0 gives 255", () -> checksum(c, 255, 0, 0, 0));
        c.test("the checksum: a sum of just 255 stays", () -> checksum(c, 0, 255, 0, 0));
        c.test("the checksum: 255 out of parts stays, too", () -> checksum(c, 0, 100, 100, 55));
        c.test("the checksum: 256 is 1", () -> checksum(c, 254, 255, 1, 0));
        c.test("the checksum: 255 is taken off each time", () -> checksum(c, 0, 255, 255, 255));
        c.test("the checksum: taken off ahead of the next byte", () -> checksum(c, 253, 128, 128, 1));
        c.test("the checksum: eight bytes of 255, classic and enhanced", () -> {
            for (int id = 0; id < 60; id++) {
                LinCluster x = new LinCluster();
                x.frame(id, 8, 1, id % 2 == 0);
                for (int i = 0; i < 8; i++) {
                    x.write(id, i, 255);
                }
                int due = id % 2 == 0 ? 255 - Wire.PIDS[id] : 0;
                c.equal("of " + id, Wire.PIDS[id] + 256 * due, x.checks(id));
            }
        });
        c.test("the checksum: of the enhanced kind the PID first, at 255 and 256 in sum", () -> {
            for (int id = 0; id < 60; id++) {
                LinCluster x = new LinCluster();
                x.frame(id, 1, 1, true);
                int pid = Wire.PIDS[id];
                x.write(id, 0, 255 - pid);
                c.equal("255 at " + id, pid, x.checks(id));
                if (pid > 0) {
                    x.write(id, 0, 256 - pid);
                    c.equal("256 at " + id, pid + 256 * 254, x.checks(id));
                }
            }
        });
    }

    private static void checksum(Checks c, int due, int... bytes) {
        LinCluster x = new LinCluster();
        x.frame(61, bytes.length, 1, false);
        x.listen(0, 61, true);
        x.slot(61, 100);
        for (int i = 0; i < bytes.length; i++) {
            x.write(61, i, bytes[i]);
        }
        c.equal("told", 0x7D + 256 * due, x.checks(61));
        x.run(Wire.HEADER + 10 * bytes.length);
        c.equal("said", Wire.character(due), Wire.heard(x, 10));
        c.equal("taken", 1, x.taken(0, 61));
    }
}
