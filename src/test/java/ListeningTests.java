/** The document's LISTENING: breaks, headers, saying and taking, which promises 3, 8, 10 and 13 rest on. */
final class ListeningTests {
    private static final int SLOT = 100;

    private ListeningTests() {
    }

    static void all(Checks c) {
        breaks(c);
        headers(c);
        saying(c);
        taking(c);
    }

    /** Frame 7 (one byte, classic) of node 2, listened to by node 3, every 100 bit times. */
    private static LinCluster simple() {
        LinCluster x = new LinCluster();
        x.frame(7, 1, 2, false);
        x.listen(3, 7, true);
        x.slot(7, SLOT);
        return x;
    }

    private static void breaks(Checks c) {
        c.test("a break: eleven zeros are one, ten are none", () -> {
            LinCluster x = new LinCluster();
            Wire.force(x, 0, "0".repeat(10));
            x.run(10);
            c.equal("ten", 1, x.told(5, 6));
            x.run(1);
            c.equal("and 1", 1, x.told(5, 6));
            Wire.force(x, 0, "0".repeat(11));
            x.run(10);
            c.equal("ten again", 1, x.told(5, 6));
            x.run(1);
            c.equal("eleven", 2, x.told(5, 6));
            x.run(1);
            c.equal("then 1", 3, x.told(5, 6));
        });
        c.test("a break: it lasts until the next 1", () -> {
            LinCluster x = new LinCluster();
            Wire.force(x, 0, "0".repeat(190));
            x.run(190);
            c.equal("in a break", 2, x.told(5, 6));
            c.equal("nothing lost", 0, x.told(5, 2));
            x.run(1);
            c.equal("in a header", 3, x.told(5, 6));
        });
        c.test("a break: a header of 11 zeros does, of 10 not", () -> {
            LinCluster x = simple();
            x.disturb(0, 1);
            x.disturb(1, 1);
            x.run(SLOT);
            c.equal("taken", 1, x.taken(3, 7));
            Wire.force(x, 0, "111");
            x.run(SLOT);
            c.equal("not taken", 1, x.taken(3, 7));
            c.equal("nor lost", 0, x.told(3, 2));
            c.equal("nor an error", 0, x.told(3, 5));
        });
        c.test("a break within a header: that one is lost at its tenth bit, the next begins", () -> {
            LinCluster x = simple();
            Wire.force(x, 14, "0".repeat(11) + "1" + Wire.characters(85, Wire.PIDS[7]));
            x.run(23);
            c.equal("in the header", 3, x.told(3, 6));
            x.run(1);
            c.equal("lost", 11, 10 * x.told(3, 2) + x.told(3, 6));
            x.run(1);
            c.equal("a break", 2, x.told(3, 6));
            x.run(21);
            c.equal("a right header", 5, x.told(3, 6));
            x.run(20);
            c.equal("taken", 1, x.taken(3, 7));
        });
        c.test("a break within a response: one error alone", () -> {
            LinCluster x = simple();
            Wire.force(x, 40, "0".repeat(11));
            x.run(SLOT);
            c.equal("publisher", 1, x.told(2, 5));
            c.equal("listener", 1, x.told(3, 5));
            c.equal("in a header", 3, x.told(3, 6));
        });
    }

    private static void headers(Checks c) {
        c.test("a header: the first character must be 85", () -> lost(c, Wire.characters(84, Wire.PIDS[7]), 10));
        c.test("a header: the first tenth bit must be 1", () -> lost(c, "0101010100" + "1", 10));
        c.test("a header: the second must be a PID", () -> {
            for (int bit = 0; bit < 8; bit++) {
                lost(c, Wire.characters(85, Wire.PIDS[7] ^ 1 << bit), 20);
            }
        });
        c.test("a header: 254 and 191 have right parity, but 62 and 63 are no IDs", () -> {
            lost(c, Wire.characters(85, 254), 20);
            lost(c, Wire.characters(85, 191), 20);
        });
        c.test("a header: of all second characters 62 are PIDs", () -> {
            for (int value = 0; value < 256; value++) {
                LinCluster x = new LinCluster();
                Wire.force(x, 0, "0".repeat(11) + "1" + Wire.characters(85, value));
                x.run(32);
                int due = Wire.isPid(value) ? 0 : 1;
                for (int node = 0; node < 8; node++) {
                    c.equal("lost at node " + node + " with " + value, due, x.told(node, 2));
                }
            }
        });
        c.test("a header: the second tenth bit must be 1", () -> {
            lost(c, Wire.character(85) + Wire.character(Wire.PIDS[7]).substring(0, 9) + "0", 20);
        });
        c.test("a header: bits 1 between its characters", () -> {
            LinCluster x = new LinCluster();
            x.frame(7, 1, 2, false);
            String header = "0".repeat(12) + "1" + "1111" + Wire.character(85) + "111" + Wire.character(Wire.PIDS[7]);
            Wire.force(x, 0, header);
            x.run(header.length() - 1);
            c.equal("in the header", 3, x.told(2, 6));
            c.equal("then its response", "1" + Wire.characters(0, 255), Wire.heard(x, 21));
            c.equal("said", 1, x.told(2, 3));
        });
        c.test("a header: a right PID that no frame has is not lost", () -> {
            for (int id = 0; id < 62; id++) {
                LinCluster x = new LinCluster();
                x.frame(7, 1, 2, false);
                Wire.force(x, 0, Wire.header(id));
                x.run(Wire.HEADER);
                c.equal("node 2 at " + id, id == 7 ? 4 : 1, x.told(2, 6));
                c.equal("node 3 at " + id, 1, x.told(3, 6));
                c.equal("lost", 0, x.told(2, 2) + x.told(3, 2));
            }
        });
        c.test("a header: behind a lost one the node waits for a break", () -> {
            LinCluster x = simple();
            x.disturb(16, 1);
            x.run(SLOT);
            c.equal("lost", 1, x.told(3, 2));
            c.equal("waits", 1, x.told(3, 6));
            x.run(SLOT);
            c.equal("lost", 1, x.told(3, 2));
            c.equal("taken", 1, x.told(3, 4));
        });
    }

    private static void lost(Checks c, String characters, int bits) {
        LinCluster x = new LinCluster();
        x.frame(7, 1, 2, false);
        x.listen(3, 7, true);
        Wire.force(x, 0, "0".repeat(11) + "1" + characters);
        x.run(12 + bits - 1);
        c.equal("in the header", 3, x.told(2, 6));
        c.equal("not lost yet", 0, x.told(3, 2));
        x.run(1);
        for (int node = 0; node < 8; node++) {
            c.equal("lost", 1, x.told(node, 2));
            c.equal("waits", 1, x.told(node, 6));
            c.equal("no error", 0, x.told(node, 5));
        }
    }

    private static void saying(Checks c) {
        c.test("saying: all bytes, then the checksum", () -> {
            for (int length = 1; length <= 8; length++) {
                LinCluster x = new LinCluster();
                x.frame(7, length, 2, true);
                x.slot(7, 130);
                int[] bytes = new int[length + 1];
                for (int i = 0; i < length; i++) {
                    bytes[i] = 201 * (i + 1) & 255;
                    x.write(7, i, bytes[i]);
                }
                bytes[length] = x.checks(7) >> 8;
                String due = Wire.header(7) + Wire.characters(bytes) + "11";
                c.equal("length " + length, due, Wire.heard(x, due.length()));
                c.equal("said", 1, x.told(2, 3));
            }
        });
        c.test("saying: the master publishes like any node", () -> {
            LinCluster x = new LinCluster();
            x.frame(7, 1, 0, true);
            x.listen(3, 7, true);
            x.slot(7, SLOT);
            x.run(SLOT);
            c.equal("said", 1, x.told(0, 3));
            c.equal("taken", 1, x.told(3, 4));
        });
        c.test("saying: at each bit another one stops it at once", () -> {
            String said = "11" + Wire.characters(0x5A, 255 - 0x5A);
            for (int i = 0; i < said.length(); i++) {
                LinCluster x = simple();
                x.write(7, 0, 0x5A);
                x.space(2, 2);
                int other = '1' - said.charAt(i);
                x.disturb(Wire.HEADER + i, other);
                x.run(Wire.HEADER + i);
                c.equal("says", 4, x.told(2, 6));
                c.equal("the line from then on", other + "1".repeat(30), Wire.heard(x, 31));
                c.equal("error", 1, x.told(2, 1));
                c.equal("once", 1, x.told(2, 5));
                c.equal("waits", 1, x.told(2, 6));
                c.equal("not said", 0, x.told(2, 3));
            }
        });
        c.test("saying: disturbed to what it says anyway does no harm", () -> {
            LinCluster x = simple();
            Wire.force(x, 0, Wire.header(7) + Wire.characters(0, 255));
            x.run(SLOT);
            c.equal("said", 1, x.told(2, 3));
            c.equal("no error", 0, x.told(2, 5));
        });
    }

    private static void taking(Checks c) {
        c.test("taking: each tenth bit must be 1", () -> {
            for (int tenth = 9; tenth < 20; tenth += 10) {
                LinCluster x = simple();
                x.disturb(Wire.HEADER + tenth, 0);
                x.run(Wire.HEADER + tenth);
                c.equal("takes", 5, x.told(3, 6));
                x.run(1);
                c.equal("error", 111, 100 * x.told(3, 1) + 10 * x.told(3, 5) + x.told(3, 6));
                x.run(40);
                c.equal("once", 1, x.told(3, 5));
                c.equal("nothing taken", 0, x.taken(3, 7) + x.told(3, 4));
            }
        });
        c.test("taking: the checksum must be right", () -> {
            LinCluster x = simple();
            x.write(7, 0, 200);
            // The checksum is 55, its highest bit 0 and the last before the tenth one.
            x.disturb(Wire.HEADER + 18, 1);
            x.run(Wire.HEADER + 19);
            c.equal("takes", 5, x.told(3, 6));
            x.run(1);
            c.equal("error", 111, 100 * x.told(3, 1) + 10 * x.told(3, 5) + x.told(3, 6));
            c.equal("nothing taken", 0, x.taken(3, 7) + x.told(3, 4) + x.byteAt(3, 7, 0));
        });
        c.test("taking: the kind of checksum is the frame's", () -> {
            for (int kind = 0; kind < 2; kind++) {
                LinCluster x = new LinCluster();
                x.frame(7, 1, 2, kind == 1);
                x.listen(3, 7, true);
                Wire.force(x, 0, Wire.header(7) + Wire.characters(1, 254));
                x.run(Wire.HEADER + 20);
                c.equal("classic bytes at kind " + kind, 1 - kind, x.taken(3, 7));
                c.equal("errors", kind, x.told(3, 5));
            }
        });
        c.test("taking: bits 1 ahead of and between characters", () -> {
            LinCluster x = new LinCluster();
            x.frame(7, 2, 2, false);
            x.listen(3, 7, true);
            Wire.force(x, 0, Wire.header(7) + "111" + Wire.character(6) + "11" + Wire.character(7) + "1111111"
                    + Wire.character(255 - 13));
            x.run(Wire.HEADER + 41);
            c.equal("takes", 5, x.told(3, 6));
            x.run(1);
            c.equal("42 bit times behind the PID: just over", 1, x.taken(3, 7));
            c.equal("bytes", 607, 100 * x.byteAt(3, 7, 0) + x.byteAt(3, 7, 1));
        });
        c.test("taking: one bit more than 14 for each character is late", () -> {
            LinCluster x = new LinCluster();
            x.frame(7, 2, 2, false);
            x.listen(3, 7, true);
            Wire.force(x, 0, Wire.header(7) + "1111" + Wire.character(6) + "11" + Wire.character(7) + "1111111"
                    + Wire.character(255 - 13));
            x.run(Wire.HEADER + 41);
            c.equal("takes", 5, x.told(3, 6));
            x.run(1);
            c.equal("error", 111, 100 * x.told(3, 1) + 10 * x.told(3, 5) + x.told(3, 6));
            x.run(10);
            c.equal("once", 1, x.told(3, 5));
            c.equal("nothing taken", 0, x.taken(3, 7));
        });
        c.test("taking: nobody answers, for each length", () -> {
            for (int length = 1; length <= 8; length++) {
                LinCluster x = new LinCluster();
                x.frame(7, length, 2, false);
                x.listen(3, 7, true);
                x.slot(7, 400);
                x.disturb(Wire.HEADER, 1);
                x.run(Wire.HEADER + 14 * (length + 1) - 1);
                c.equal("takes", 50, 10 * x.told(3, 6) + x.told(3, 5));
                x.run(1);
                c.equal("error", 11, 10 * x.told(3, 6) + x.told(3, 5));
            }
        });
        c.test("taking: a space of 8 ahead of one byte is just in time", () -> {
            LinCluster x = simple();
            x.space(2, 8);
            x.run(Wire.HEADER + 28);
            c.equal("taken", 1, x.taken(3, 7));
            c.equal("no error", 0, x.told(3, 5));
        });
        c.test("taking: an error does not hinder the next", () -> {
            LinCluster x = simple();
            x.write(7, 0, 99);
            x.disturb(Wire.HEADER + 9, 0);
            x.run(2 * SLOT);
            c.equal("taken", 1, x.taken(3, 7));
            c.equal("byte", 99, x.byteAt(3, 7, 0));
            c.equal("its error stays", 1, x.told(3, 1));
        });
        c.test("taking: the listener's error is told in its own status frame", () -> {
            LinCluster x = simple();
            LinCluster y = new LinCluster();
            y.frame(7, 1, 2, false);
            y.frame(8, 1, 3, true);
            y.listen(3, 7, true);
            y.listen(0, 8, true);
            y.status(3, 8, 0, 1);
            y.slot(7, 60);
            y.slot(8, 60);
            y.disturb(Wire.HEADER + 9, 0);
            y.run(120);
            c.equal("told", 2, y.byteAt(0, 8, 0));
            c.equal("over", 0, y.told(3, 1));
            c.equal("the publisher's is not", 1, y.told(2, 1));
            y.run(120);
            c.equal("told anew", 0, y.byteAt(0, 8, 0));
            c.equal("another cluster has none", 0, x.told(3, 1));
        });
    }
}
