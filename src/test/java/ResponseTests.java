/** The document's LISTENING, responses that are said and taken, which promises 3, 4, 5, 7 and 11 to 13 rest on. */
final class ResponseTests {
    private static final int SLOT = 100;

    private ResponseTests() {
    }

    static void all(Checks c) {
        saying(c);
        sayingStatus(c);
        taking(c);
        takingInTime(c);
        takingWrongly(c);
    }

    /** Frame 7 (one byte, classic) of node 2, listened to by node 3, every 100 bit times. */
    private static LinCluster simple() {
        LinCluster x = new LinCluster();
        x.frame(7, 1, 2, false);
        x.listen(3, 7, true);
        x.slot(7, SLOT);
        return x;
    }

    private static void saying(Checks c) {
        c.test("saying: all bytes, then the checksum", () -> {
            for (int length = 1; length <= 8; length++) {
                LinCluster x = new LinCluster();
                x.frame(7, length, 2, true);
                x.slot(7, 130);
                int[] bytes = new int[length + 1];
                for (int i = 0; i < length; i++) {
                    bytes[i] = 201 * (i + 1) & 255;
                    x.write(7, i, bytes[i]);
                }
                bytes[length] = x.checks(7) >> 8;
                String due = Wire.header(7) + Wire.characters(bytes) + "11";
                c.equal("length " + length, due, Wire.heard(x, due.length()));
                c.equal("said", 1, x.told(2, 3));
            }
        });
        c.test("saying: the master publishes like any node", () -> {
            LinCluster x = new LinCluster();
            x.frame(7, 1, 0, true);
            x.listen(3, 7, true);
            x.slot(7, SLOT);
            x.run(SLOT);
            c.equal("said", 1, x.told(0, 3));
            c.equal("taken", 1, x.told(3, 4));
        });
        c.test("saying: at each bit another one stops it at once", () -> {
            String said = "11" + Wire.characters(0x5A, 255 - 0x5A);
            for (int i = 0; i < said.length(); i++) {
                LinCluster x = simple();
                x.write(7, 0, 0x5A);
                x.space(2, 2);
                int other = '1' - said.charAt(i);
                x.disturb(Wire.HEADER + i, other);
                x.run(Wire.HEADER + i);
                c.equal("says", 4, x.told(2, 6));
                c.equal("the line from then on", other + "1".repeat(30), Wire.heard(x, 31));
                c.equal("error", 1, x.told(2, 1));
                c.equal("once", 1, x.told(2, 5));
                c.equal("waits", 1, x.told(2, 6));
                c.equal("not said", 0, x.told(2, 3));
            }
        });
        c.test("saying: each bit of a SPACE of 8 is compared, too", () -> {
            for (int i = 0; i < 8; i++) {
                LinCluster x = simple();
                x.space(2, 8);
                x.disturb(Wire.HEADER + i, 0);
                x.run(Wire.HEADER + i);
                c.equal("says, at " + i, 40, 10 * x.told(2, 6) + x.told(2, 5));
                c.equal("the line at " + i, "0" + "1".repeat(29), Wire.heard(x, 30));
                c.equal("stopped, at " + i, 11, 10 * x.told(2, 6) + x.told(2, 5));
            }
        });
        c.test("saying: behind its last bit nothing is compared", () -> {
            LinCluster x = simple();
            x.disturb(Wire.HEADER + 20, 0);
            x.run(SLOT);
            c.equal("said", 10, 10 * x.told(2, 3) + x.told(2, 5));
            c.equal("taken", 10, 10 * x.told(3, 4) + x.told(3, 5));
        });
        c.test("saying: its last bit decides, the tenth of the checksum", () -> {
            LinCluster x = simple();
            x.disturb(Wire.HEADER + 19, 0);
            x.run(Wire.HEADER + 19);
            c.equal("not said yet", 40, 10 * x.told(2, 6) + x.told(2, 3));
            x.run(1);
            c.equal("not said", 101, 100 * x.told(2, 6) + 10 * x.told(2, 3) + x.told(2, 5));
        });
        c.test("saying: disturbed to what it says anyway does no harm", () -> {
            LinCluster x = simple();
            Wire.force(x, 0, Wire.header(7) + Wire.characters(0, 255));
            x.run(SLOT);
            c.equal("said", 1, x.told(2, 3));
            c.equal("no error", 0, x.told(2, 5));
        });
    }

    private static void sayingStatus(Checks c) {
        c.test("saying: an error while the status is said leaves the ERROR, the next whole one ends it", () -> {
            LinCluster x = simple();
            x.status(2, 7, 0, 7);
            x.disturb(Wire.HEADER, 1);
            x.disturb(SLOT + Wire.HEADER + 19, 0);
            x.run(SLOT);
            c.equal("an ERROR", 11, 10 * x.told(2, 1) + x.told(2, 5));
            x.run(SLOT);
            c.equal("still, and another error", 12, 10 * x.told(2, 1) + x.told(2, 5));
            x.run(SLOT);
            c.equal("none, and the count stays", 2, 10 * x.told(2, 1) + x.told(2, 5));
            c.equal("it was told", 128, x.byteAt(3, 7, 0));
            x.run(SLOT);
            c.equal("and then no more", 0, x.byteAt(3, 7, 0));
        });
        c.test("saying: the status bit in each byte and at each place", () -> {
            for (int place = 0; place < 64; place++) {
                LinCluster x = new LinCluster();
                x.frame(7, 8, 2, true);
                x.listen(3, 7, true);
                x.status(2, 7, place / 8, place % 8);
                x.slot(7, 140);
                x.disturb(Wire.HEADER, 1);
                x.run(280);
                for (int i = 0; i < 8; i++) {
                    c.equal("byte " + i + " at " + place, i == place / 8 ? 1 << place % 8 : 0, x.byteAt(3, 7, i));
                    x.write(7, i, 255);
                }
                x.run(140);
                for (int i = 0; i < 8; i++) {
                    int due = i == place / 8 ? 255 - (1 << place % 8) : 255;
                    c.equal("without an ERROR, byte " + i + " at " + place, due, x.byteAt(3, 7, i));
                }
            }
        });
        c.test("taking: the listener's error is told in its own status frame", () -> {
            LinCluster x = simple();
            LinCluster y = new LinCluster();
            y.frame(7, 1, 2, false);
            y.frame(8, 1, 3, true);
            y.listen(3, 7, true);
            y.listen(0, 8, true);
            y.status(3, 8, 0, 1);
            y.slot(7, 60);
            y.slot(8, 60);
            y.disturb(Wire.HEADER + 9, 0);
            y.run(120);
            c.equal("told", 2, y.byteAt(0, 8, 0));
            c.equal("over", 0, y.told(3, 1));
            c.equal("the publisher's is not", 1, y.told(2, 1));
            y.run(120);
            c.equal("told anew", 0, y.byteAt(0, 8, 0));
            c.equal("another cluster has none", 0, x.told(3, 1));
        });
    }

    private static void taking(Checks c) {
        c.test("taking: the kind of checksum is the frame's", () -> {
            for (int kind = 0; kind < 2; kind++) {
                LinCluster x = new LinCluster();
                x.frame(7, 1, 2, kind == 1);
                x.listen(3, 7, true);
                Wire.force(x, 0, Wire.header(7) + Wire.characters(1, 254));
                x.run(Wire.HEADER + 20);
                c.equal("classic bytes at kind " + kind, 1 - kind, x.taken(3, 7));
                c.equal("errors", kind, x.told(3, 5));
            }
        });
        c.test("taking: bits 1 ahead of and between characters", () -> {
            LinCluster x = new LinCluster();
            x.frame(7, 2, 2, false);
            x.listen(3, 7, true);
            Wire.force(x, 0, Wire.header(7) + "111" + Wire.character(6) + "11" + Wire.character(7) + "1111111"
                    + Wire.character(255 - 13));
            x.run(Wire.HEADER + 41);
            c.equal("takes", 5, x.told(3, 6));
            x.run(1);
            c.equal("42 bit times behind the PID: just over", 1, x.taken(3, 7));
            c.equal("bytes", 607, 100 * x.byteAt(3, 7, 0) + x.byteAt(3, 7, 1));
        });
        c.test("taking: an error does not hinder the next", () -> {
            LinCluster x = simple();
            x.write(7, 0, 99);
            x.disturb(Wire.HEADER + 9, 0);
            x.run(2 * SLOT);
            c.equal("taken", 1, x.taken(3, 7));
            c.equal("byte", 99, x.byteAt(3, 7, 0));
            c.equal("its error stays", 1, x.told(3, 1));
        });
        c.test("taking: an error leaves the bytes that were taken last", () -> {
            LinCluster x = simple();
            x.write(7, 0, 44);
            x.run(SLOT);
            x.write(7, 0, 45);
            x.disturb(Wire.HEADER + 19, 0);
            x.run(SLOT);
            c.equal("byte", 44, x.byteAt(3, 7, 0));
            c.equal("once taken, one error", 11, 10 * x.taken(3, 7) + x.told(3, 5));
        });
        c.test("taking: behind it characters are nothing to a node, it waits for a break", () -> {
            LinCluster x = new LinCluster();
            x.frame(7, 1, 2, false);
            x.listen(3, 7, true);
            Wire.force(x, 0, Wire.header(7) + Wire.characters(9, 246, 8, 247, 7, 248));
            x.run(Wire.HEADER + 60);
            c.equal("taken once", 1, x.taken(3, 7));
            c.equal("byte", 9, x.byteAt(3, 7, 0));
            c.equal("waits, without an error", 10, 10 * x.told(3, 6) + x.told(3, 5));
        });
        c.test("counts: errors each time, also with an ERROR already, at who takes and at who says", () -> {
            LinCluster x = simple();
            for (int i = 1; i <= 5; i++) {
                x.disturb(Wire.HEADER + 9, 0);
                x.run(SLOT);
                c.equal("the publisher", 10 + i, 10 * x.told(2, 1) + x.told(2, 5));
                c.equal("the listener", 10 + i, 10 * x.told(3, 1) + x.told(3, 5));
            }
        });
    }

    private static void takingInTime(Checks c) {
        c.test("taking: one bit more than 14 for each character is late", () -> {
            LinCluster x = new LinCluster();
            x.frame(7, 2, 2, false);
            x.listen(3, 7, true);
            Wire.force(x, 0, Wire.header(7) + "1111" + Wire.character(6) + "11" + Wire.character(7) + "1111111"
                    + Wire.character(255 - 13));
            x.run(Wire.HEADER + 41);
            c.equal("takes", 5, x.told(3, 6));
            x.run(1);
            c.equal("error", 111, 100 * x.told(3, 1) + 10 * x.told(3, 5) + x.told(3, 6));
            x.run(10);
            c.equal("once", 1, x.told(3, 5));
            c.equal("nothing taken", 0, x.taken(3, 7));
        });
        c.test("taking: for each length just in time, and with one bit more late", () -> {
            for (int length = 1; length <= 8; length++) {
                for (int more = 0; more < 2; more++) {
                    LinCluster x = new LinCluster();
                    x.frame(7, length, 2, false);
                    x.listen(3, 7, true);
                    int[] all = new int[length + 1];
                    all[length] = 255;
                    int limit = 14 * (length + 1);
                    Wire.force(x, 0, Wire.header(7) + "1".repeat(4 * (length + 1) + more) + Wire.characters(all));
                    x.run(Wire.HEADER + limit - 1);
                    c.equal("takes, of length " + length, 50, 10 * x.told(3, 6) + x.told(3, 5));
                    x.run(1);
                    c.equal("over, of length " + length, 10 + more, 10 * x.told(3, 6) + x.told(3, 5));
                    c.equal("taken, of length " + length, 1 - more, x.taken(3, 7));
                    x.run(10);
                    c.equal("and no more, of length " + length, more, x.told(3, 5));
                }
            }
        });
        c.test("taking: nobody answers, for each length", () -> {
            for (int length = 1; length <= 8; length++) {
                LinCluster x = new LinCluster();
                x.frame(7, length, 2, false);
                x.listen(3, 7, true);
                x.slot(7, 400);
                x.disturb(Wire.HEADER, 1);
                x.run(Wire.HEADER + 14 * (length + 1) - 1);
                c.equal("takes", 50, 10 * x.told(3, 6) + x.told(3, 5));
                x.run(1);
                c.equal("error", 11, 10 * x.told(3, 6) + x.told(3, 5));
            }
        });
        c.test("taking: a space of 8 ahead of one byte is just in time", () -> {
            LinCluster x = simple();
            x.space(2, 8);
            x.run(Wire.HEADER + 28);
            c.equal("taken", 1, x.taken(3, 7));
            c.equal("no error", 0, x.told(3, 5));
        });
        c.test("taking: a tenth bit of 0, or another checksum, just at its end is one error", () -> {
            for (int kind = 0; kind < 2; kind++) {
                LinCluster x = simple();
                String last = kind == 0 ? "0111111110" : Wire.character(254);
                Wire.force(x, 0, Wire.header(7) + "1".repeat(8) + Wire.character(0) + last);
                x.run(Wire.HEADER + 27);
                c.equal("takes", 50, 10 * x.told(3, 6) + x.told(3, 5));
                x.run(1);
                c.equal("an error", 11, 10 * x.told(3, 6) + x.told(3, 5));
                x.run(5);
                c.equal("once", 110, 100 * x.told(3, 5) + 10 * x.told(3, 1) + x.taken(3, 7));
            }
        });
    }

    private static void takingWrongly(Checks c) {
        c.test("taking: each tenth bit must be 1", () -> {
            for (int tenth = 9; tenth < 20; tenth += 10) {
                LinCluster x = simple();
                x.disturb(Wire.HEADER + tenth, 0);
                x.run(Wire.HEADER + tenth);
                c.equal("takes", 5, x.told(3, 6));
                x.run(1);
                c.equal("error", 111, 100 * x.told(3, 1) + 10 * x.told(3, 5) + x.told(3, 6));
                x.run(40);
                c.equal("once", 1, x.told(3, 5));
                c.equal("nothing taken", 0, x.taken(3, 7) + x.told(3, 4));
            }
        });
        c.test("taking: each tenth bit of eight bytes and the checksum", () -> {
            for (int number = 0; number < 9; number++) {
                LinCluster x = new LinCluster();
                x.frame(7, 8, 2, false);
                x.listen(3, 7, true);
                x.slot(7, 140);
                int tenth = Wire.HEADER + 10 * number + 9;
                x.disturb(tenth, 0);
                x.run(tenth);
                c.equal("takes, at " + number, 50, 10 * x.told(3, 6) + x.told(3, 5));
                x.run(1);
                c.equal("an error at " + number, 11, 10 * x.told(3, 6) + x.told(3, 5));
            }
        });
        c.test("taking: the checksum must be right", () -> {
            LinCluster x = simple();
            x.write(7, 0, 200);
            // The checksum is 55, its highest bit 0 and the last before the tenth one.
            x.disturb(Wire.HEADER + 18, 1);
            x.run(Wire.HEADER + 19);
            c.equal("takes", 5, x.told(3, 6));
            x.run(1);
            c.equal("error", 111, 100 * x.told(3, 1) + 10 * x.told(3, 5) + x.told(3, 6));
            c.equal("nothing taken", 0, x.taken(3, 7) + x.told(3, 4) + x.byteAt(3, 7, 0));
        });
        c.test("taking: each bit of the checksum counts", () -> {
            for (int bit = 0; bit < 8; bit++) {
                LinCluster x = new LinCluster();
                x.frame(7, 2, 2, false);
                x.listen(3, 7, true);
                Wire.force(x, 0, Wire.header(7) + Wire.characters(17, 5, 255 - 22 ^ 1 << bit));
                x.run(Wire.HEADER + 30);
                c.equal("an error with bit " + bit, 1, x.told(3, 5));
                c.equal("nothing kept with bit " + bit, 0, x.taken(3, 7) + x.byteAt(3, 7, 0) + x.byteAt(3, 7, 1));
            }
        });
        c.test("taking: checksums 0 and 255 are not the same", () -> {
            LinCluster x = new LinCluster();
            x.frame(7, 1, 2, false);
            x.listen(3, 7, true);
            Wire.force(x, 0, Wire.header(7) + Wire.characters(0, 0));
            x.run(Wire.HEADER + 20);
            c.equal("an error", 10, 10 * x.told(3, 5) + x.taken(3, 7));
            Wire.force(x, 0, Wire.header(7) + Wire.characters(255, 255));
            x.run(Wire.HEADER + 20);
            c.equal("another", 20, 10 * x.told(3, 5) + x.taken(3, 7));
            Wire.force(x, 0, Wire.header(7) + Wire.characters(255, 0));
            x.run(Wire.HEADER + 20);
            c.equal("255 and 0 are right", 21, 10 * x.told(3, 5) + x.taken(3, 7));
        });
    }
}
