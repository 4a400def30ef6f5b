/** The document's LISTENING, breaks and headers, which promises 8, 10 and 13 rest on. */
final class ListeningTests {
    private static final int SLOT = 100;

    private ListeningTests() {
    }

    static void all(Checks c) {
        breaks(c);
        breaksAnywhere(c);
        headers(c);
    }

    /** Frame 7 (one byte, classic) of node 2, listened to by node 3, every 100 bit times. */
    private static LinCluster simple() {
        LinCluster x = new LinCluster();
        x.frame(7, 1, 2, false);
        x.listen(3, 7, true);
        x.slot(7, SLOT);
        return x;
    }

    private static void breaks(Checks c) {
        c.test("a break: eleven zeros are one, ten are none", () -> {
            LinCluster x = new LinCluster();
            Wire.force(x, 0, "0".repeat(10));
            x.run(10);
            c.equal("ten", 1, x.told(5, 6));
            x.run(1);
            c.equal("and 1", 1, x.told(5, 6));
            Wire.force(x, 0, "0".repeat(11));
            x.run(10);
            c.equal("ten again", 1, x.told(5, 6));
            x.run(1);
            c.equal("eleven", 2, x.told(5, 6));
            x.run(1);
            c.equal("then 1", 3, x.told(5, 6));
        });
        c.test("a break: it lasts until the next 1", () -> {
            LinCluster x = new LinCluster();
            Wire.force(x, 0, "0".repeat(190));
            x.run(190);
            c.equal("in a break", 2, x.told(5, 6));
            c.equal("nothing lost", 0, x.told(5, 2));
            x.run(1);
            c.equal("in a header", 3, x.told(5, 6));
        });
        c.test("a break: a header of 11 zeros does, of 10 not", () -> {
            LinCluster x = simple();
            x.disturb(0, 1);
            x.disturb(1, 1);
            x.run(SLOT);
            c.equal("taken", 1, x.taken(3, 7));
            Wire.force(x, 0, "111");
            x.run(SLOT);
            c.equal("not taken", 1, x.taken(3, 7));
            c.equal("nor lost", 0, x.told(3, 2));
            c.equal("nor an error", 0, x.told(3, 5));
        });
        c.test("a break within a header: that one is lost at its tenth bit, the next begins", () -> {
            LinCluster x = simple();
            Wire.force(x, 14, "0".repeat(11) + "1" + Wire.characters(85, Wire.PIDS[7]));
            x.run(23);
            c.equal("in the header", 3, x.told(3, 6));
            x.run(1);
            c.equal("lost", 11, 10 * x.told(3, 2) + x.told(3, 6));
            x.run(1);
            c.equal("a break", 2, x.told(3, 6));
            x.run(21);
            c.equal("a right header", 5, x.told(3, 6));
            x.run(20);
            c.equal("taken", 1, x.taken(3, 7));
        });
        c.test("a break within a response: one error alone", () -> {
            LinCluster x = simple();
            Wire.force(x, 40, "0".repeat(11));
            x.run(SLOT);
            c.equal("publisher", 1, x.told(2, 5));
            c.equal("listener", 1, x.told(3, 5));
            c.equal("in a header", 3, x.told(3, 6));
        });
    }

    private static void breaksAnywhere(Checks c) {
        c.test("a break: zeros count across the end of a character", () -> {
            LinCluster x = new LinCluster();
            // 85 with a tenth bit of 0: its last two bits are zeros, so nine more are a break.
            Wire.force(x, 0, "0".repeat(11) + "1" + "0101010100" + "0".repeat(9));
            x.run(22);
            c.equal("lost", 11, 10 * x.told(4, 2) + x.told(4, 6));
            x.run(8);
            c.equal("ten zeros", 1, x.told(4, 6));
            x.run(1);
            c.equal("eleven zeros", 2, x.told(4, 6));
        });
        c.test("a break: ten zeros in a header lose it, and with 1 behind them there is none", () -> {
            LinCluster x = new LinCluster();
            Wire.force(x, 0, "0".repeat(11) + "1" + "0".repeat(10) + "1");
            x.run(22);
            c.equal("lost", 11, 10 * x.told(4, 2) + x.told(4, 6));
            x.run(1);
            c.equal("waits on", 11, 10 * x.told(4, 2) + x.told(4, 6));
        });
        c.test("a break: between the two characters of a header", () -> {
            LinCluster x = new LinCluster();
            x.frame(7, 1, 2, false);
            Wire.force(x, 0, "0".repeat(11) + "1" + Wire.character(85) + "11" + "0".repeat(11));
            x.run(24);
            c.equal("in the header", 3, x.told(2, 6));
            x.run(9);
            c.equal("nine zeros", 30, 10 * x.told(2, 6) + x.told(2, 2));
            x.run(1);
            c.equal("lost with the tenth", 11, 10 * x.told(2, 6) + x.told(2, 2));
            x.run(1);
            c.equal("a break with the eleventh", 21, 10 * x.told(2, 6) + x.told(2, 2));
            Wire.force(x, 0, "1" + Wire.characters(85, Wire.PIDS[7]));
            x.run(21);
            c.equal("the header behind it is whole", 41, 10 * x.told(2, 6) + x.told(2, 2));
        });
        c.test("a break: behind a break, after one bit 1 alone", () -> {
            LinCluster x = new LinCluster();
            x.frame(7, 1, 2, false);
            Wire.force(x, 0, "0".repeat(11) + "1" + Wire.header(7));
            x.run(12 + 10);
            c.equal("the first header is lost", 11, 10 * x.told(2, 6) + x.told(2, 2));
            x.run(1);
            c.equal("the second break", 2, x.told(2, 6));
            x.run(Wire.HEADER - 11);
            c.equal("and says", 41, 10 * x.told(2, 6) + x.told(2, 2));
        });
        c.test("a break: at every bit of a response it ends it, with one error at who takes and at who says", () -> {
            for (int i = 0; i < 20; i++) {
                LinCluster x = simple();
                x.write(7, 0, 0x55);
                Wire.force(x, Wire.HEADER + i, "0".repeat(11) + "1");
                x.run(Wire.HEADER + i + 11);
                c.equal("a break for all at " + i, 222, 100 * x.told(2, 6) + 10 * x.told(3, 6) + x.told(4, 6));
                c.equal("the publisher's errors at " + i, 1, x.told(2, 5));
                c.equal("the listener's errors at " + i, 1, x.told(3, 5));
                c.equal("nothing said or taken at " + i, 0, x.told(2, 3) + x.told(3, 4) + x.taken(3, 7));
                c.equal("no error of the others", 0, x.told(4, 5));
                x.run(1);
                c.equal("a header at " + i, 333, 100 * x.told(2, 6) + 10 * x.told(3, 6) + x.told(4, 6));
            }
        });
        c.test("a break: ahead of a response that is awaited", () -> {
            LinCluster x = simple();
            // The publisher stops at its first bit; the listener waits.
            x.disturb(Wire.HEADER, 1);
            Wire.force(x, Wire.HEADER + 4, "0".repeat(11));
            x.run(Wire.HEADER + 4);
            c.equal("takes", 5, x.told(3, 6));
            x.run(11);
            c.equal("a break, one error", 21, 10 * x.told(3, 6) + x.told(3, 5));
        });
    }

    private static void headers(Checks c) {
        c.test("a header: of all first characters 85 alone does", () -> {
            for (int value = 0; value < 256; value++) {
                LinCluster x = new LinCluster();
                Wire.force(x, 0, "0".repeat(11) + "1" + Wire.character(value));
                x.run(21);
                c.equal("not lost yet with " + value, 30, 10 * x.told(6, 6) + x.told(6, 2));
                x.run(1);
                int due = value == 85 ? 30 : 11;
                for (int node = 0; node < 8; node++) {
                    c.equal("node " + node + " with " + value, due, 10 * x.told(node, 6) + x.told(node, 2));
                }
            }
        });
        c.test("a header: 85 as its second character is the PID of 21", () -> {
            LinCluster x = new LinCluster();
            x.frame(21, 1, 2, false);
            x.frame(7, 1, 3, false);
            Wire.force(x, 0, "0".repeat(11) + "1" + Wire.characters(85, 85));
            x.run(32);
            c.equal("21 is said", 41, 10 * x.told(2, 6) + x.told(3, 6));
            c.equal("nothing is lost", 0, x.told(3, 2));
        });
        c.test("a header: it begins with the first 1, and waits for its first 0 however long", () -> {
            LinCluster x = new LinCluster();
            x.frame(7, 1, 2, false);
            Wire.force(x, 0, "0".repeat(11));
            x.run(11);
            c.equal("a break", 2, x.told(2, 6));
            Wire.pass(x, 2998);
            c.equal("in a header", 3, x.told(2, 6));
            Wire.force(x, 0, Wire.characters(85, Wire.PIDS[7]));
            x.run(20);
            c.equal("says", 4, x.told(2, 6));
        });
        c.test("a header: a lost one counts once, whatever comes ahead of the next break", () -> {
            LinCluster x = new LinCluster();
            Wire.force(x, 0, "0".repeat(11) + "1" + Wire.characters(84, 1, 85, 2, 0) + "0".repeat(10));
            x.run(22);
            c.equal("lost", 1, x.told(5, 2));
            x.run(60);
            c.equal("once", 11, 10 * x.told(5, 6) + x.told(5, 2));
        });
        c.test("a header: the first character must be 85", () -> lost(c, Wire.characters(84, Wire.PIDS[7]), 10));
        c.test("a header: the first tenth bit must be 1", () -> lost(c, "0101010100" + "1", 10));
        c.test("a header: the second must be a PID", () -> {
            for (int bit = 0; bit < 8; bit++) {
                lost(c, Wire.characters(85, Wire.PIDS[7] ^ 1 << bit), 20);
            }
        });
        c.test("a header: 254 and 191 have right parity, but 62 and 63 are no IDs", () -> {
            lost(c, Wire.characters(85, 254), 20);
            lost(c, Wire.characters(85, 191), 20);
        });
        c.test("a header: of all second characters 62 are PIDs", () -> {
            for (int value = 0; value < 256; value++) {
                LinCluster x = new LinCluster();
                Wire.force(x, 0, "0".repeat(11) + "1" + Wire.characters(85, value));
                x.run(32);
                int due = Wire.isPid(value) ? 0 : 1;
                for (int node = 0; node < 8; node++) {
                    c.equal("lost at node " + node + " with " + value, due, x.told(node, 2));
                }
            }
        });
        c.test("a header: the second tenth bit must be 1", () -> {
            lost(c, Wire.character(85) + Wire.character(Wire.PIDS[7]).substring(0, 9) + "0", 20);
        });
        c.test("a header: bits 1 between its characters", () -> {
            LinCluster x = new LinCluster();
            x.frame(7, 1, 2, false);
            String header = "0".repeat(12) + "1" + "1111" + Wire.character(85) + "111" + Wire.character(Wire.PIDS[7]);
            Wire.force(x, 0, header);
            x.run(header.length() - 1);
            c.equal("in the header", 3, x.told(2, 6));
            c.equal("then its response", "1" + Wire.characters(0, 255), Wire.heard(x, 21));
            c.equal("said", 1, x.told(2, 3));
        });
        c.test("a header: a right PID that no frame has is not lost", () -> {
            for (int id = 0; id < 62; id++) {
                LinCluster x = new LinCluster();
                x.frame(7, 1, 2, false);
                Wire.force(x, 0, Wire.header(id));
                x.run(Wire.HEADER);
                c.equal("node 2 at " + id, id == 7 ? 4 : 1, x.told(2, 6));
                c.equal("node 3 at " + id, 1, x.told(3, 6));
                c.equal("lost", 0, x.told(2, 2) + x.told(3, 2));
            }
        });
        c.test("a header: behind a lost one the node waits for a break", () -> {
            LinCluster x = simple();
            x.disturb(16, 1);
            x.run(SLOT);
            c.equal("lost", 1, x.told(3, 2));
            c.equal("waits", 1, x.told(3, 6));
            x.run(SLOT);
            c.equal("lost", 1, x.told(3, 2));
            c.equal("taken", 1, x.told(3, 4));
        });
    }

    private static void lost(Checks c, String characters, int bits) {
        LinCluster x = new LinCluster();
        x.frame(7, 1, 2, false);
        x.listen(3, 7, true);
        Wire.force(x, 0, "0".repeat(11) + "1" + characters);
        x.run(12 + bits - 1);
        c.equal("in the header", 3, x.told(2, 6));
        c.equal("not lost yet", 0, x.told(3, 2));
        x.run(1);
        for (int node = 0; node < 8; node++) {
            c.equal("lost", 1, x.told(node, 2));
            c.equal("waits", 1, x.told(node, 6));
            c.equal("no error", 0, x.told(node, 5));
        }
    }
}
