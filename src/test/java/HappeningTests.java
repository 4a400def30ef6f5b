/** Promises 7 to 10: what happens. */
final class HappeningTests {
    private HappeningTests() {
    }

    static void all(Checks c) {
        write(c);
        disturb(c);
        wake(c);
        run(c);
    }

    private static void write(Checks c) {
        c.test("promise 7: what it was, and illegal arguments", () -> {
            LinCluster x = new LinCluster();
            x.frame(7, 8, 2, true);
            for (int i = 0; i < 8; i++) {
                c.equal("was 0", 0, x.write(7, i, 255 - i));
            }
            for (int i = 0; i < 8; i++) {
                c.equal("was", 255 - i, x.write(7, i, i));
                c.equal("is", i, x.byteAt(2, 7, i));
            }
            c.argument("no frame", () -> x.write(6, 0, 0));
            c.argument("id 62", () -> x.write(62, 0, 0));
            c.argument("byte -1", () -> x.write(7, -1, 0));
            c.argument("byte 8", () -> x.write(7, 8, 0));
            c.argument("v -1", () -> x.write(7, 0, -1));
            c.argument("v 256", () -> x.write(7, 0, 256));
            c.equal("nothing changed", 0, x.byteAt(2, 7, 0));
        });
        c.test("promise 7: from the next saying on", () -> {
            LinCluster x = new LinCluster();
            x.frame(7, 1, 2, false);
            x.listen(3, 7, true);
            x.slot(7, 60);
            x.run(Wire.HEADER - 1);
            x.write(7, 0, 11);
            x.run(1);
            x.write(7, 0, 12);
            Wire.until(x, 60);
            c.equal("ahead of the last bit of the PID it counts, behind it not", 11, x.byteAt(3, 7, 0));
            c.equal("at the publisher", 12, x.byteAt(2, 7, 0));
            Wire.until(x, 120);
            c.equal("next saying", 12, x.byteAt(3, 7, 0));
        });
    }

    private static void disturb(Checks c) {
        c.test("promise 8: where, and to what", () -> {
            LinCluster x = new LinCluster();
            x.disturb(0, 0);
            x.disturb(2, 0);
            x.disturb(3, 1);
            x.disturb(63, 0);
            c.equal("to come", 4, x.count(3));
            String due = "0101" + "1".repeat(59) + "0" + "1".repeat(16);
            c.equal("the line", due, Wire.heard(x, 80));
            c.equal("none to come", 0, x.count(3));
        });
        c.test("promise 8: a bit 0 that is said may be 1 on the line", () -> {
            LinCluster x = new LinCluster();
            x.wake(4);
            x.disturb(3, 1);
            c.equal("the line", "0001000011", Wire.heard(x, 10));
        });
        c.test("promise 8: anew", () -> {
            LinCluster x = new LinCluster();
            x.disturb(5, 0);
            x.disturb(5, 1);
            x.disturb(6, 1);
            x.disturb(6, 0);
            c.equal("two", 2, x.count(3));
            c.equal("the line", "11111101", Wire.heard(x, 8));
        });
        c.test("promise 8: behind the TIME that is", () -> {
            LinCluster x = new LinCluster();
            x.run(10);
            x.disturb(2, 0);
            c.equal("the line", "1101", Wire.heard(x, 4));
        });
        c.test("promise 8: 4000 bit times ahead, from any time on", () -> {
            for (int begin = 0; begin < 9000; begin += 1777) {
                LinCluster x = new LinCluster();
                Wire.pass(x, begin);
                x.disturb(4000, 0);
                x.disturb(1, 0);
                Wire.pass(x, 4000);
                c.equal("one to come", 1, x.count(3));
                c.equal("not yet", 1, x.line(1));
                x.run(1);
                c.equal("now", 0, x.line(1));
                c.equal("none to come", 0, x.count(3));
                Wire.pass(x, 4200);
                c.equal("once only", 0, x.count(3));
            }
        });
        c.test("promise 8: 0 behind TIME is the very next bit time, from any time on", () -> {
            for (int begin = 0; begin < 200; begin += 33) {
                LinCluster x = new LinCluster();
                Wire.pass(x, begin);
                x.disturb(0, 0);
                c.equal("to come", 1, x.count(3));
                x.run(1);
                c.equal("came", 0, x.count(3) + x.line(1));
            }
        });
        c.test("promise 8: anew to what it was already stays that", () -> {
            for (int times = 1; times <= 4; times++) {
                LinCluster x = new LinCluster();
                x.wake(3);
                for (int i = 0; i < times; i++) {
                    x.disturb(2, 1);
                    x.disturb(9, 0);
                }
                c.equal("told " + times + " times", 2, x.count(3));
                c.equal("the line", "00100000" + "101", Wire.heard(x, 11));
            }
        });
        c.test("promise 8: each bit, 1 and 0, by itself behind one that came long ago", () -> {
            for (int gap = 4090; gap <= 4100; gap++) {
                for (int old = 0; old < 2; old++) {
                    LinCluster x = new LinCluster();
                    x.disturb(3, old);
                    Wire.pass(x, 3 + gap - 2);
                    x.wake(3);
                    x.disturb(2, 1);
                    c.equal("1 behind " + old + ", " + gap, "00100", Wire.heard(x, 5));
                    LinCluster y = new LinCluster();
                    y.disturb(3, old);
                    Wire.pass(y, 3 + gap - 2);
                    y.disturb(2, 0);
                    c.equal("0 behind " + old + ", " + gap, "11011", Wire.heard(y, 5));
                }
            }
        });
        c.test("promise 8: anew also much later, and as often as one likes", () -> {
            LinCluster x = new LinCluster();
            x.disturb(1000, 0);
            Wire.pass(x, 400);
            x.disturb(600, 1);
            x.disturb(600, 0);
            x.disturb(600, 0);
            c.equal("one", 1, x.count(3));
            Wire.pass(x, 600);
            c.equal("not yet", 1, x.line(1));
            x.run(1);
            c.equal("now", 0, x.line(1) + x.count(3));
        });
        c.test("promise 8: behind a disturbing that came, the same place may be disturbed no more", () -> {
            LinCluster x = new LinCluster();
            x.disturb(0, 0);
            x.run(1);
            x.disturb(0, 0);
            c.equal("the next one", "01", Wire.heard(x, 2));
        });
        c.test("promise 8: the 200th is taken, and each of 200 comes in its bit time", () -> {
            LinCluster x = new LinCluster();
            for (int i = 0; i < 200; i++) {
                c.equal("to come", i, i < 3 || i > 197 ? x.count(3) : i);
                x.disturb(i, i % 3 == 0 ? 0 : 1);
            }
            c.state("the 201st", () -> x.disturb(200, 0));
            c.equal("the line", "011".repeat(66) + "01" + "1", Wire.heard(x, 201));
        });
        c.test("promise 8: illegal arguments", () -> {
            LinCluster x = new LinCluster();
            c.argument("behind -1", () -> x.disturb(-1, 0));
            c.argument("behind 4001", () -> x.disturb(4001, 0));
            c.argument("bit -1", () -> x.disturb(0, -1));
            c.argument("bit 2", () -> x.disturb(0, 2));
            c.equal("none", 0, x.count(3));
        });
        c.test("promise 8: 200 at most", () -> {
            LinCluster x = new LinCluster();
            for (int i = 0; i < 200; i++) {
                x.disturb(20 * i, 1);
            }
            c.equal("to come", 200, x.count(3));
            c.state("one more", () -> x.disturb(1, 0));
            c.state("one of them anew, too", () -> x.disturb(20, 0));
            c.argument("illegal argument first", () -> x.disturb(4001, 0));
            c.equal("still", 200, x.count(3));
            x.run(1);
            c.equal("one has come", 199, x.count(3));
            x.disturb(0, 0);
            c.state("full again", () -> x.disturb(1, 0));
            c.equal("and it is told", "01", Wire.heard(x, 2));
        });
    }

    private static void wake(Checks c) {
        c.test("promise 9: eight bits 0 from the next bit time on", () -> {
            for (int node = 0; node < 8; node++) {
                LinCluster x = new LinCluster();
                x.run(5);
                x.wake(node);
                c.equal("node " + node, "0000000011", Wire.heard(x, 10));
                c.equal("it was awake and waits", 1, x.told(node, 6));
            }
        });
        c.test("promise 9: from its first bit on if it was already", () -> {
            LinCluster x = new LinCluster();
            x.wake(3);
            x.wake(3);
            c.equal("twice at once", "0000", Wire.heard(x, 4));
            x.wake(3);
            c.equal("twelve in all", "0000000011", Wire.heard(x, 10));
            c.equal("that was a break", 3, x.told(0, 6));
        });
        c.test("promise 9: two nodes each by itself", () -> {
            LinCluster x = new LinCluster();
            x.wake(3);
            x.run(3);
            x.wake(5);
            c.equal("the line", "0000000011", Wire.heard(x, 10));
        });
        c.test("promise 9: a node that says is disturbed by its own waking", () -> {
            LinCluster x = new LinCluster();
            x.frame(7, 1, 2, false);
            x.slot(7, 60);
            x.write(7, 0, 128);
            x.run(Wire.HEADER + 2);
            x.wake(2);
            Wire.until(x, Wire.HEADER + 8);
            c.equal("says 0 where it wakes with 0", 4, x.told(2, 6));
            x.run(1);
            c.equal("but not 1", 1, x.told(2, 6));
            c.equal("an error", 1, x.told(2, 5));
        });
        c.test("promise 9: illegal arguments", () -> {
            LinCluster x = new LinCluster();
            c.argument("node -1", () -> x.wake(-1));
            c.argument("node 8", () -> x.wake(8));
            c.equal("nobody says a thing", "111", Wire.heard(x, 3));
        });
    }

    private static void run(Checks c) {
        c.test("promise 10: the TIME, and illegal arguments", () -> {
            LinCluster x = new LinCluster();
            c.equal("1", 1, x.run(1));
            c.equal("2000", 2001, x.run(2000));
            c.argument("0", () -> x.run(0));
            c.argument("-1", () -> x.run(-1));
            c.argument("2001", () -> x.run(2001));
            c.equal("TIME", 2001, x.count(0));
        });
        c.test("promise 10: 200000 at most", () -> {
            LinCluster x = new LinCluster();
            Wire.pass(x, 199000);
            c.state("above", () -> x.run(1001));
            c.argument("illegal argument first", () -> x.run(2001));
            c.equal("TIME stays", 199000, x.count(0));
            c.equal("to the brim", 200000, x.run(1000));
            c.state("one more", () -> x.run(1));
            x.disturb(0, 0);
            c.equal("what will not come stays to come", 1, x.count(3));
        });
        c.test("promise 10: just 200000 by one, and by 2000", () -> {
            LinCluster x = new LinCluster();
            Wire.pass(x, 199999);
            c.state("two", () -> x.run(2));
            c.equal("one", 200000, x.run(1));
            LinCluster y = new LinCluster();
            Wire.pass(y, 198000);
            c.equal("2000", 200000, y.run(2000));
            c.state("one more", () -> y.run(1));
            c.equal("and it answers on", 200000, y.count(0));
            c.equal("awake or not", 0, y.told(3, 0));
        });
        c.test("promise 10: one bit time is one bit time", () -> {
            LinCluster x = new LinCluster();
            x.disturb(1, 0);
            c.equal("TIME", 1, x.run(1));
            c.equal("the disturbing is to come", 1, x.count(3));
            c.equal("TIME", 2, x.run(1));
            c.equal("it came", 0, x.count(3) + x.line(1));
        });
        c.test("promise 10: in parts or at once is the same", () -> {
            LinCluster x = busy();
            LinCluster y = busy();
            Wire.pass(x, 1500);
            for (int i = 0; i < 100; i++) {
                y.run(1 + 7 * (i % 2));
            }
            Wire.until(y, 1500);
            c.equal("all", Wire.picture(x), Wire.picture(y));
        });
    }

    private static LinCluster busy() {
        LinCluster x = new LinCluster();
        x.frame(1, 3, 0, true);
        x.frame(60, 2, 4, true);
        x.listen(4, 1, true);
        x.listen(0, 60, true);
        x.status(0, 1, 2, 2);
        x.space(4, 6);
        x.slot(1, 88);
        x.slot(60, 77);
        x.write(60, 0, 3);
        for (int i = 0; i < 40; i++) {
            x.disturb(37 * i, i % 2);
        }
        return x;
    }
}
