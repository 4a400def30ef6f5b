/** The document's SLEEP: how nodes fall asleep and wake, which promises 9, 10, 13 and 14 rest on. */
final class SleepTests {
    private SleepTests() {
    }

    static void all(Checks c) {
        bySleepFrame(c);
        byQuiet(c);
        waking(c);
        master(c);
    }

    /** Frame 60 of the master (a first byte of 0), then frame 7 of node 2; nodes 1 and 2 listen to 60, node 3 to 7. */
    private static LinCluster ordered() {
        LinCluster x = new LinCluster();
        x.frame(60, 1, 0, false);
        x.frame(7, 1, 2, false);
        x.listen(1, 60, true);
        x.listen(2, 60, true);
        x.listen(3, 7, true);
        x.slot(60, 60);
        x.slot(7, 60);
        return x;
    }

    private static void bySleepFrame(Checks c) {
        c.test("sleep: who took or said wholly frame 60 with 0", () -> {
            LinCluster x = ordered();
            x.run(Wire.HEADER + 19);
            c.equal("all awake", 1111, awake(x));
            x.run(1);
            c.equal("0, 1 and 2 asleep", 1000, awake(x));
            c.equal("asleep they are at nothing", 0, x.told(0, 6) + x.told(1, 6) + x.told(2, 6));
            c.equal("said and taken", 111, 100 * x.told(0, 3) + 10 * x.told(1, 4) + x.taken(2, 60));
            c.equal("no slot at hand", LinCluster.NONE, x.count(1));
            c.equal("the line is still", "1".repeat(200), Wire.heard(x, 200));
            c.equal("no slot began", 1, x.count(2));
        });
        c.test("sleep: another first byte does not", () -> {
            LinCluster x = ordered();
            x.write(60, 0, 1);
            x.run(120);
            c.equal("all awake", 1111, awake(x));
            c.equal("taken", 1, x.taken(1, 60));
        });
        c.test("sleep: the first byte alone counts", () -> {
            LinCluster x = new LinCluster();
            x.frame(60, 2, 0, false);
            x.listen(1, 60, true);
            x.slot(60, 90);
            x.write(60, 1, 255);
            x.run(90);
            c.equal("asleep", 0, x.told(0, 0) + x.told(1, 0));
        });
        c.test("sleep: the other bytes do not count, were they all 0", () -> {
            for (int first = 0; first < 2; first++) {
                LinCluster x = new LinCluster();
                x.frame(60, 8, 5, false);
                x.listen(1, 60, true);
                x.slot(60, 140);
                x.write(60, 0, first);
                x.run(Wire.HEADER + 89);
                c.equal("awake to the last bit", 11, 10 * x.told(5, 0) + x.told(1, 0));
                x.run(1);
                c.equal("first byte " + first, 11 * first, 10 * x.told(5, 0) + x.told(1, 0));
                c.equal("the master neither said nor took it", 1, x.told(0, 0));
            }
        });
        c.test("sleep: each bit of the first byte keeps awake", () -> {
            for (int bit = 0; bit < 8; bit++) {
                LinCluster x = ordered();
                x.write(60, 0, 1 << bit);
                x.run(60);
                c.equal("awake with bit " + bit, 1111, awake(x));
            }
        });
        c.test("sleep: who says it falls asleep, also if nobody listens", () -> {
            LinCluster x = new LinCluster();
            x.frame(60, 1, 6, false);
            x.slot(60, 60);
            x.run(Wire.HEADER + 20);
            for (int node = 0; node < 8; node++) {
                c.equal("node " + node, node == 6 ? 0 : 1, x.told(node, 0));
            }
        });
        c.test("sleep: taken with another checksum, or too late, it does not count", () -> {
            for (int kind = 0; kind < 2; kind++) {
                LinCluster x = ordered();
                String response = kind == 0 ? Wire.characters(0, 254) : "1".repeat(9) + Wire.characters(0, 255);
                Wire.force(x, 0, Wire.header(60) + response);
                x.run(Wire.HEADER + response.length());
                c.equal("all awake", 1111, awake(x));
                c.equal("errors", 11, 10 * x.told(1, 5) + x.told(2, 5));
            }
        });
        c.test("sleep: the bytes with the last bit of the PID count, not what is written later", () -> {
            LinCluster x = ordered();
            x.run(Wire.HEADER);
            x.write(60, 0, 7);
            x.run(20);
            c.equal("asleep all the same", 1000, awake(x));
            LinCluster y = ordered();
            y.write(60, 0, 7);
            y.run(Wire.HEADER);
            y.write(60, 0, 0);
            y.run(20);
            c.equal("awake all the same", 1111, awake(y));
        });
        c.test("sleep: frame 61 with 0 does not", () -> {
            LinCluster x = new LinCluster();
            x.frame(61, 1, 0, false);
            x.listen(1, 61, true);
            x.slot(61, 60);
            x.run(60);
            c.equal("awake", 2, x.told(0, 0) + x.told(1, 0));
        });
        c.test("sleep: a response that is not whole does not", () -> {
            LinCluster x = ordered();
            x.disturb(Wire.HEADER + 19, 0);
            x.run(60);
            c.equal("all awake", 1111, awake(x));
        });
        c.test("sleep: the byte as it was said, with its status bit", () -> {
            LinCluster x = ordered();
            x.status(0, 60, 0, 5);
            x.disturb(Wire.HEADER, 1);
            x.run(180);
            c.equal("said with its error: awake", 1111, awake(x));
            c.equal("byte", 32, x.byteAt(1, 60, 0));
            x.run(120);
            c.equal("said without: asleep", 1000, awake(x));
        });
        c.test("sleep: who ended its listening while it took it, too", () -> {
            LinCluster x = ordered();
            x.run(Wire.HEADER + 2);
            x.listen(1, 60, false);
            x.run(18);
            c.equal("1 is asleep", 1000, awake(x));
            c.equal("among all", 1, x.told(1, 4));
        });
    }

    /** Whether nodes 3, 2, 1 and 0 are awake, a digit each. */
    private static int awake(LinCluster x) {
        return 1000 * x.told(3, 0) + 100 * x.told(2, 0) + 10 * x.told(1, 0) + x.told(0, 0);
    }

    private static void byQuiet(Checks c) {
        c.test("sleep: 3000 bits 1 in a row", () -> {
            LinCluster x = new LinCluster();
            Wire.pass(x, 2999);
            for (int node = 0; node < 8; node++) {
                c.equal("awake", 1, x.told(node, 0));
            }
            x.run(1);
            for (int node = 0; node < 8; node++) {
                c.equal("asleep", 0, x.told(node, 0) + x.told(node, 6));
            }
        });
        c.test("sleep: a 0 between begins them anew", () -> {
            LinCluster x = new LinCluster();
            x.disturb(2999, 0);
            Wire.pass(x, 5999);
            c.equal("awake", 1, x.told(4, 0));
            x.run(1);
            c.equal("asleep", 0, x.told(4, 0));
        });
        c.test("sleep: 2999 bits 1 and a 0 again and again keep all awake", () -> {
            LinCluster x = new LinCluster();
            for (int i = 0; i < 4; i++) {
                x.disturb(2999, 0);
                Wire.pass(x, 3000);
                c.equal("awake", 2, x.told(0, 0) + x.told(7, 0));
            }
        });
        c.test("sleep: also the master, with slots that are not heard", () -> {
            LinCluster x = new LinCluster();
            x.frame(61, 1, 3, false);
            x.slot(61, 400);
            String header = Wire.header(61);
            for (int slot = 0; slot < 8; slot++) {
                for (int i = 0; i < Wire.HEADER; i++) {
                    if (header.charAt(i) == '0') {
                        x.disturb(400 * slot + i, 1);
                    }
                }
            }
            Wire.pass(x, 2999);
            c.equal("awake, slot 0 at hand", 10, 10 * x.told(0, 0) + x.count(1));
            x.run(1);
            c.equal("asleep", 0, x.told(0, 0));
            c.equal("no slot", LinCluster.NONE, x.count(1));
            c.equal("begun", 8, x.count(2));
        });
        c.test("sleep: a node that was awake all along counts the 1 that wakes another, that other does not", () -> {
            LinCluster x = new LinCluster();
            x.frame(60, 1, 5, false);
            Wire.force(x, 0, Wire.header(60));
            x.run(Wire.HEADER + 20);
            c.equal("5 is asleep, 4 is not", 1, 10 * x.told(5, 0) + x.told(4, 0));
            Wire.force(x, 0, "00000");
            x.run(6);
            c.equal("both are awake", 11, 10 * x.told(5, 0) + x.told(4, 0));
            Wire.pass(x, 2998);
            c.equal("both are still", 11, 10 * x.told(5, 0) + x.told(4, 0));
            x.run(1);
            c.equal("4 had 3000", 10, 10 * x.told(5, 0) + x.told(4, 0));
            x.run(1);
            c.equal("5 has them now", 0, 10 * x.told(5, 0) + x.told(4, 0));
        });
        c.test("sleep: also out of a header that does not go on", () -> {
            LinCluster x = new LinCluster();
            Wire.force(x, 0, "0".repeat(11));
            Wire.pass(x, 11 + 2999);
            c.equal("in a header", 3, x.told(4, 6));
            x.run(1);
            c.equal("asleep", 0, x.told(4, 6));
        });
        c.test("sleep: after waking they count from the bit behind the one that woke", () -> {
            LinCluster x = asleep();
            x.wake(6);
            x.run(9);
            c.equal("awake", 1, x.told(4, 0));
            Wire.pass(x, 2999);
            c.equal("still awake", 1, x.told(4, 0));
            x.run(1);
            c.equal("asleep", 0, x.told(4, 0));
        });
    }

    private static LinCluster asleep() {
        LinCluster x = new LinCluster();
        Wire.pass(x, 3000);
        return x;
    }

    private static void waking(Checks c) {
        c.test("waking: five zeros and a 1, not four", () -> {
            LinCluster x = asleep();
            Wire.force(x, 0, "0000" + "1" + "00000");
            x.run(5);
            c.equal("four", 0, x.told(4, 0));
            x.run(5);
            c.equal("five, but no 1 yet", 0, x.told(4, 0));
            x.run(1);
            for (int node = 0; node < 8; node++) {
                c.equal("awake, waits", 11, 10 * x.told(node, 0) + x.told(node, 6));
            }
        });
        c.test("waking: so many zeros and then 1, from 1 to 30 zeros", () -> {
            for (int zeros = 1; zeros <= 30; zeros++) {
                LinCluster x = asleep();
                Wire.force(x, 0, "0".repeat(zeros));
                x.run(zeros);
                c.equal("asleep with " + zeros, 0, x.told(4, 6));
                x.run(1);
                c.equal("behind " + zeros, zeros >= 5 ? 1 : 0, x.told(4, 6));
            }
        });
        c.test("waking: zeros that are not in a row do not count together", () -> {
            LinCluster x = asleep();
            Wire.force(x, 0, "0000100001000010001001");
            x.run(30);
            c.equal("asleep", 0, x.told(4, 0));
        });
        c.test("waking: it does not end before the 1, however many zeros come", () -> {
            LinCluster x = asleep();
            Wire.force(x, 0, "0".repeat(190));
            x.run(190);
            c.equal("asleep", 0, x.told(4, 0));
            x.run(1);
            c.equal("awake, waits", 11, 10 * x.told(4, 0) + x.told(4, 6));
        });
        c.test("waking: disturbed after four of its bits it wakes nobody, after five it does", () -> {
            for (int at = 4; at <= 5; at++) {
                LinCluster x = asleep();
                x.wake(3);
                x.disturb(at, 1);
                // The rest of its bits are fewer than five.
                c.equal("the line", "0".repeat(at) + "1" + "0".repeat(7 - at) + "11", Wire.heard(x, 10));
                c.equal("disturbed behind " + at, at - 4, x.told(3, 0));
            }
        });
        c.test("waking: told again with its last bit to come it says 15, behind that one 16", () -> {
            for (int bits = 7; bits <= 8; bits++) {
                LinCluster x = new LinCluster();
                x.wake(3);
                x.run(bits);
                x.wake(3);
                c.equal("after " + bits, "0".repeat(8) + "11", Wire.heard(x, 10));
                c.equal("the last bit ahead of them", 0, x.line(10 + 1));
            }
        });
        c.test("waking: eight zeros are no break for who is awake", () -> {
            LinCluster x = new LinCluster();
            x.wake(3);
            x.run(8);
            c.equal("waits", 1, x.told(4, 6));
            x.run(1);
            c.equal("waits on", 10, 10 * x.told(4, 6) + x.told(4, 2));
        });
        c.test("waking: a node asleep knows its first break only behind its waking", () -> {
            LinCluster x = asleep();
            x.wake(3);
            x.run(9);
            Wire.force(x, 0, "0".repeat(11));
            x.run(10);
            c.equal("ten", 1, x.told(4, 6));
            x.run(1);
            c.equal("eleven", 2, x.told(4, 6));
        });
        c.test("waking: a break wakes, but is not met as one", () -> {
            LinCluster x = asleep();
            Wire.force(x, 0, Wire.header(7));
            x.run(13);
            c.equal("asleep in the break", 0, x.told(4, 6));
            x.run(1);
            c.equal("awake, waits", 1, x.told(4, 6));
            x.run(20);
            c.equal("waits on", 1, x.told(4, 6));
            c.equal("lost none", 0, x.told(4, 2));
        });
        c.test("waking: a node wakes itself and all others", () -> {
            LinCluster x = asleep();
            x.wake(6);
            x.run(8);
            c.equal("asleep yet", 0, x.told(6, 0));
            x.run(1);
            for (int node = 0; node < 8; node++) {
                c.equal("awake", 1, x.told(node, 0));
            }
        });
        c.test("waking: asleep a node neither says nor takes nor has errors", () -> {
            LinCluster x = new LinCluster();
            x.frame(60, 1, 4, false);
            x.frame(7, 1, 1, true);
            x.listen(1, 60, true);
            x.listen(0, 7, true);
            x.slot(60, 60);
            x.slot(7, 70);
            x.run(60);
            c.equal("1 and 4 asleep, the master not", 100, 100 * x.told(0, 0) + 10 * x.told(1, 0) + x.told(4, 0));
            Wire.until(x, 60 + Wire.HEADER);
            c.equal("the header woke 1", 1, x.told(1, 6));
            c.equal("nobody says", "1".repeat(30), Wire.heard(x, 30));
            c.equal("the master waited in vain", 1, x.told(0, 5));
            c.equal("1 has no error", 0, x.told(1, 5) + x.told(1, 2));
        });
        c.test("waking: bytes, counts and error stay through sleep", () -> {
            LinCluster x = ordered();
            x.disturb(Wire.HEADER + 9, 0);
            x.run(120);
            c.equal("node 1 has an error", 11, 10 * x.told(1, 1) + x.told(1, 5));
            x.run(60);
            c.equal("asleep", 0, x.told(1, 0));
            c.equal("error stays", 11, 10 * x.told(1, 1) + x.told(1, 5));
            x.wake(1);
            x.run(9);
            c.equal("awake", 1, x.told(1, 0));
            c.equal("error stays awake", 11, 10 * x.told(1, 1) + x.told(1, 5));
            c.equal("takings stay", 1, x.taken(1, 60));
        });
    }

    private static void master(Checks c) {
        c.test("the master: awake again it begins slot 0 when 50 bit times have passed", () -> {
            LinCluster x = ordered();
            x.write(60, 0, 0);
            x.run(60);
            c.equal("asleep", 0, x.told(0, 0));
            x.write(60, 0, 4);
            x.wake(2);
            x.run(9);
            c.equal("awake", 1, x.told(0, 0));
            c.equal("no slot", LinCluster.NONE, x.count(1));
            c.equal("still", "1".repeat(50), Wire.heard(x, 50));
            c.equal("no slot yet", LinCluster.NONE, x.count(1));
            c.equal("one began before", 1, x.count(2));
            c.equal("slot 0", Wire.header(60) + Wire.characters(4, 251), Wire.heard(x, Wire.HEADER + 20));
            c.equal("at hand", 0, x.count(1));
            c.equal("begun", 2, x.count(2));
            Wire.pass(x, 7);
            c.equal("then slot 1", 1, x.count(1));
        });
        c.test("the master: waking bits in its 50 bit times do not put slot 0 off", () -> {
            LinCluster x = ordered();
            x.run(60);
            x.write(60, 0, 4);
            x.wake(2);
            x.run(9);
            x.run(20);
            x.wake(3);
            x.run(30);
            c.equal("none yet", LinCluster.NONE, x.count(1));
            x.run(1);
            c.equal("slot 0", 0, x.count(1));
            c.equal("its first bit", 0, x.line(1));
        });
        c.test("the master: asleep and awake twice, each time from slot 0 and behind 50", () -> {
            LinCluster x = ordered();
            x.run(60);
            for (int i = 1; i <= 2; i++) {
                x.wake(0);
                x.run(9 + 50);
                c.equal("no slot", i, x.count(2));
                c.equal("none at hand", LinCluster.NONE, x.count(1));
                x.run(1);
                c.equal("slot 0", i + 1, x.count(2));
                c.equal("at hand", 0, x.count(1));
                x.run(Wire.HEADER + 19);
                c.equal("asleep again", 0, x.told(0, 0));
            }
        });
        c.test("the master: without slots none begins when it is awake again", () -> {
            LinCluster x = asleep();
            x.wake(0);
            x.run(200);
            c.equal("awake", 1, x.told(0, 0));
            c.equal("none begun", 0, x.count(2));
            c.equal("none at hand", LinCluster.NONE, x.count(1));
        });
        c.test("the master: who is awake already does not wait, whoever is waking", () -> {
            for (int node = 0; node < 8; node++) {
                LinCluster x = new LinCluster();
                x.frame(7, 1, 2, false);
                x.slot(7, 60);
                x.slot(7, 70);
                x.wake(node);
                Wire.until(x, 55);
                c.equal("at hand", 0, x.count(1));
                x.wake(node);
                c.equal("at hand still", 0, x.count(1));
                Wire.until(x, 60);
                c.equal("begun", 1, x.count(2));
                x.run(1);
                c.equal("begun", 2, x.count(2));
                c.equal("slot 1", 1, x.count(1));
                Wire.until(x, 131);
                c.equal("slot 0 anew", 3, x.count(2));
            }
        });
        c.test("the master: it goes on from slot 0, whichever sent it to sleep", () -> {
            LinCluster x = new LinCluster();
            x.frame(7, 1, 2, false);
            x.frame(60, 1, 0, false);
            x.slot(7, 60);
            x.slot(60, 60);
            x.run(120);
            c.equal("asleep behind slot 1", 0, x.told(0, 0));
            x.wake(0);
            Wire.pass(x, 60);
            c.equal("slot 0", 0, x.count(1));
            c.equal("begun", 3, x.count(2));
        });
        c.test("the master: asleep within a header it says no more of it", () -> {
            LinCluster x = new LinCluster();
            x.frame(60, 1, 2, false);
            x.listen(0, 60, true);
            x.slot(60, 53);
            // Slot 1 begins with the last bit of the response, which the disturbing mends.
            x.disturb(53, 1);
            x.run(53);
            c.equal("awake", 1, x.told(0, 0));
            c.equal("the line", "1".repeat(20), Wire.heard(x, 20));
            c.equal("asleep", 0, x.told(0, 0));
            c.equal("two began", 2, x.count(2));
            c.equal("none at hand", LinCluster.NONE, x.count(1));
        });
        c.test("the master: awake while others sleep its slots go on", () -> {
            LinCluster x = new LinCluster();
            x.frame(60, 1, 4, false);
            x.listen(1, 60, true);
            x.slot(60, 60);
            x.run(61);
            c.equal("asleep", 0, x.told(1, 0) + x.told(4, 0));
            c.equal("slots", 2, x.count(2));
        });
    }
}
