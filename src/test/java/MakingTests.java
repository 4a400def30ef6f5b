/** Promises 1 to 6: what there is. */
final class MakingTests {
    private MakingTests() {
    }

    static void all(Checks c) {
        newObject(c);
        frame(c);
        listen(c);
        status(c);
        space(c);
        slot(c);
    }

    private static void newObject(Checks c) {
        c.test("promise 1: no frames, no slots, no disturbings, time 0", () -> {
            LinCluster x = new LinCluster();
            c.equal("TIME", 0, x.count(0));
            c.equal("slot at hand", LinCluster.NONE, x.count(1));
            c.equal("slots begun", 0, x.count(2));
            c.equal("disturbings", 0, x.count(3));
            for (int id = 0; id < 62; id++) {
                int asked = id;
                c.argument("checks(" + id + ")", () -> x.checks(asked));
            }
            c.equal("TIME after 100", 100, x.run(100));
            c.equal("still no slot", LinCluster.NONE, x.count(1));
            c.equal("none begun", 0, x.count(2));
        });
        c.test("promise 1: all awake and waiting, without errors, space 0", () -> {
            LinCluster x = new LinCluster();
            for (int node = 0; node < 8; node++) {
                c.equal("awake", 1, x.told(node, 0));
                for (int what = 1; what < 6; what++) {
                    c.equal("told " + what, 0, x.told(node, what));
                }
                c.equal("waits", 1, x.told(node, 6));
                c.equal("space", 0, x.space(node, 0));
            }
        });
        c.test("promise 1: objects do not know one another", () -> {
            LinCluster x = new LinCluster();
            LinCluster y = new LinCluster();
            x.frame(5, 1, 0, true);
            x.run(3);
            x.disturb(9, 0);
            c.argument("checks at the other", () -> y.checks(5));
            c.equal("TIME at the other", 0, y.count(0));
            c.equal("disturbings at the other", 0, y.count(3));
        });
    }

    private static void frame(Checks c) {
        c.test("promise 2: the edges of its numbers", () -> {
            LinCluster x = new LinCluster();
            x.frame(0, 1, 0, true);
            x.frame(61, 8, 7, true);
            c.equal("byte 7 there", 0, x.byteAt(7, 61, 7));
            c.argument("byte 1 of one byte", () -> x.byteAt(0, 0, 1));
            c.argument("id -1", () -> x.frame(-1, 1, 0, true));
            c.argument("id 62", () -> x.frame(62, 1, 0, true));
            c.argument("length 0", () -> x.frame(1, 0, 0, true));
            c.argument("length 9", () -> x.frame(1, 9, 0, true));
            c.argument("publisher -1", () -> x.frame(1, 1, -1, true));
            c.argument("publisher 8", () -> x.frame(1, 1, 8, true));
            c.argument("no frame came of that", () -> x.checks(1));
        });
        c.test("promise 2: the two kinds of checksum, 60 and 61 always classic", () -> {
            LinCluster x = new LinCluster();
            x.frame(1, 1, 0, true);
            x.frame(2, 1, 0, false);
            x.frame(59, 1, 0, true);
            x.frame(60, 1, 0, true);
            x.frame(61, 1, 0, true);
            c.equal("enhanced", 0xC1 + 256 * (255 - 0xC1), x.checks(1));
            c.equal("classic", 0x42 + 256 * 255, x.checks(2));
            c.equal("59 enhanced", 0xFB + 256 * (255 - 0xFB), x.checks(59));
            c.equal("60 classic", 0x3C + 256 * 255, x.checks(60));
            c.equal("61 classic", 0x7D + 256 * 255, x.checks(61));
        });
        c.test("promise 2: anew its bytes are 0 and nobody listens", () -> {
            LinCluster x = new LinCluster();
            x.frame(9, 2, 1, true);
            x.write(9, 1, 77);
            x.listen(4, 9, true);
            x.frame(9, 3, 2, false);
            c.equal("byte", 0, x.byteAt(2, 9, 1));
            c.equal("length", 0, x.byteAt(2, 9, 2));
            c.equal("kind", 0x49 + 256 * 255, x.checks(9));
            c.argument("no listener", () -> x.taken(4, 9));
            c.argument("no publisher of old", () -> x.taken(1, 9));
            c.equal("did not listen", 0, x.listen(4, 9, true) ? 1 : 0);
            c.equal("the old publisher may listen", 0, x.listen(1, 9, true) ? 1 : 0);
        });
        c.test("promise 2: anew it has no status", () -> {
            LinCluster x = new LinCluster();
            x.frame(9, 1, 1, false);
            x.status(1, 9, 0, 3);
            x.frame(9, 1, 1, false);
            x.slot(9, 60);
            x.disturb(Wire.HEADER, 1);
            x.run(60);
            c.equal("has an error", 1, x.told(1, 1));
            c.equal("says 0", Wire.header(9) + Wire.characters(0, 255), Wire.heard(x, Wire.HEADER + 20));
            c.equal("said wholly", 1, x.told(1, 3));
            c.equal("keeps its error", 1, x.told(1, 1));
        });
        c.test("promise 2: anew it leaves other frames, their listeners and statuses", () -> {
            LinCluster x = new LinCluster();
            x.frame(8, 1, 1, false);
            x.frame(9, 1, 1, false);
            x.listen(3, 8, true);
            x.write(8, 0, 6);
            x.status(1, 8, 0, 0);
            x.frame(9, 2, 1, false);
            c.equal("byte", 6, x.byteAt(1, 8, 0));
            x.slot(8, 60);
            x.disturb(Wire.HEADER, 1);
            x.run(120);
            c.equal("its listener took its status", 7, x.byteAt(3, 8, 0));
            c.equal("and its ERROR is over", 0, x.told(1, 1));
        });
        c.test("promise 2: anew with a shorter length its last bytes are gone", () -> {
            LinCluster x = new LinCluster();
            x.frame(9, 8, 1, false);
            x.write(9, 7, 5);
            x.status(1, 9, 7, 7);
            x.frame(9, 7, 1, false);
            c.argument("byte 7", () -> x.byteAt(1, 9, 7));
            c.argument("a status there", () -> x.status(1, 9, 7, 7));
            x.frame(9, 8, 1, false);
            c.equal("byte 7 of the next", 0, x.byteAt(1, 9, 7));
        });
        c.test("promise 2: in time 0 behind slots, disturbings and a waking, too", () -> {
            LinCluster x = new LinCluster();
            x.frame(9, 1, 1, false);
            x.slot(9, 60);
            x.disturb(0, 1);
            x.wake(4);
            x.frame(10, 1, 1, false);
            c.equal("there it is", Wire.PIDS[10] + 256 * 255, x.checks(10));
        });
        c.test("promise 2: anew its slots stay, with its new publisher", () -> {
            LinCluster x = new LinCluster();
            x.frame(9, 1, 1, true);
            x.slot(9, 60);
            x.frame(9, 1, 2, true);
            x.run(Wire.HEADER);
            c.equal("the old one", 1, x.told(1, 6));
            c.equal("the new one", 4, x.told(2, 6));
        });
        c.test("promise 2: illegal state above time 0, illegal argument first", () -> {
            LinCluster x = new LinCluster();
            x.run(1);
            c.state("frame", () -> x.frame(1, 1, 0, true));
            c.argument("length 9", () -> x.frame(1, 9, 0, true));
        });
    }

    private static void listen(Checks c) {
        c.test("promise 3: whether it did", () -> {
            LinCluster x = new LinCluster();
            x.frame(0, 2, 3, true);
            c.equal("did not", 0, x.listen(7, 0, true) ? 1 : 0);
            c.equal("did", 1, x.listen(7, 0, true) ? 1 : 0);
            c.equal("another did not", 0, x.listen(0, 0, false) ? 1 : 0);
            c.equal("did to its end", 1, x.listen(7, 0, false) ? 1 : 0);
            c.equal("does not any more", 0, x.listen(7, 0, false) ? 1 : 0);
        });
        c.test("promise 3: illegal arguments", () -> {
            LinCluster x = new LinCluster();
            x.frame(5, 2, 3, true);
            c.argument("node -1", () -> x.listen(-1, 5, true));
            c.argument("node 8", () -> x.listen(8, 5, true));
            c.argument("no frame", () -> x.listen(0, 6, true));
            c.argument("id -1", () -> x.listen(0, -1, true));
            c.argument("id 62", () -> x.listen(0, 62, false));
            c.argument("publisher on", () -> x.listen(3, 5, true));
            c.argument("publisher off", () -> x.listen(3, 5, false));
        });
        c.test("promise 3: again on while it listens keeps all, off and on begins anew", () -> {
            LinCluster x = taken();
            x.listen(2, 5, true);
            c.equal("takings", 1, x.taken(2, 5));
            c.equal("byte", 170, x.byteAt(2, 5, 0));
            x.listen(2, 5, false);
            c.argument("taken", () -> x.taken(2, 5));
            c.argument("byteAt", () -> x.byteAt(2, 5, 0));
            x.listen(2, 5, true);
            c.equal("takings anew", 0, x.taken(2, 5));
            c.equal("byte anew", 0, x.byteAt(2, 5, 0));
            c.equal("among all", 1, x.told(2, 4));
        });
        c.test("promise 3: off where it did not listen changes nothing", () -> {
            LinCluster x = taken();
            c.equal("did not", 0, x.listen(4, 5, false) ? 1 : 0);
            c.equal("the other's takings", 1, x.taken(2, 5));
            c.argument("it has nothing", () -> x.taken(4, 5));
        });
        c.test("promise 3: off while it takes and the response is wrong: an error among all", () -> {
            LinCluster x = taken();
            Wire.until(x, 60 + Wire.HEADER + 3);
            x.listen(2, 5, false);
            x.disturb(6, 0);
            Wire.until(x, 119);
            c.equal("an error", 11, 10 * x.told(2, 1) + x.told(2, 5));
            c.equal("not taken", 1, x.told(2, 4));
        });
        c.test("promise 3: off just with the last bit to come keeps nothing, behind it nothing is left", () -> {
            LinCluster x = taken();
            Wire.until(x, 60 + Wire.HEADER + 19);
            x.listen(2, 5, false);
            x.run(1);
            c.equal("among all", 2, x.told(2, 4));
            x.listen(2, 5, true);
            c.equal("nothing kept", 0, x.taken(2, 5) + x.byteAt(2, 5, 0));
        });
        c.test("promise 3: all seven others may listen, and one that ends leaves the rest", () -> {
            LinCluster x = new LinCluster();
            x.frame(5, 1, 3, true);
            x.write(5, 0, 170);
            x.slot(5, 60);
            for (int node = 0; node < 8; node++) {
                if (node != 3) {
                    x.listen(node, 5, true);
                }
            }
            x.run(60);
            x.listen(4, 5, false);
            x.run(60);
            for (int node = 0; node < 8; node++) {
                if (node != 3 && node != 4) {
                    c.equal("takings of " + node, 2, x.taken(node, 5));
                }
            }
            c.argument("node 4", () -> x.taken(4, 5));
            c.equal("node 4 among all", 1, x.told(4, 4));
        });
        c.test("promise 3: off while it takes: counts among all, keeps nothing", () -> {
            LinCluster x = taken();
            Wire.until(x, 60 + Wire.HEADER + 3);
            c.equal("takes", 5, x.told(2, 6));
            x.listen(2, 5, false);
            c.equal("still takes", 5, x.told(2, 6));
            Wire.until(x, 119);
            c.equal("among all", 2, x.told(2, 4));
            c.equal("no error", 0, x.told(2, 5));
            x.listen(2, 5, true);
            c.equal("nothing kept", 0, x.taken(2, 5));
            c.equal("no byte kept", 0, x.byteAt(2, 5, 0));
        });
        c.test("promise 3: off and on while it takes: keeps it", () -> {
            LinCluster x = taken();
            Wire.until(x, 60 + Wire.HEADER + 3);
            x.listen(2, 5, false);
            x.listen(2, 5, true);
            Wire.until(x, 119);
            c.equal("kept", 1, x.taken(2, 5));
            c.equal("byte", 170, x.byteAt(2, 5, 0));
        });
        c.test("promise 3: what counts is the listening with the last bit of the PID", () -> {
            LinCluster x = taken();
            x.listen(2, 5, false);
            Wire.until(x, 60 + Wire.HEADER - 1);
            x.listen(2, 5, true);
            x.run(1);
            c.equal("just in time", 5, x.told(2, 6));
            x.listen(2, 5, false);
            Wire.until(x, 120 + Wire.HEADER);
            x.listen(2, 5, true);
            c.equal("too late", 1, x.told(2, 6));
        });
    }

    /** Frame 5 of node 3 with 170, every 60 bit times, taken once by node 2. */
    private static LinCluster taken() {
        LinCluster x = new LinCluster();
        x.frame(5, 1, 3, true);
        x.write(5, 0, 170);
        x.listen(2, 5, true);
        x.slot(5, 60);
        x.run(60);
        return x;
    }

    private static void status(Checks c) {
        c.test("promise 4: illegal arguments", () -> {
            LinCluster x = new LinCluster();
            x.frame(5, 2, 3, true);
            x.status(3, 5, 0, 0);
            x.status(3, 5, 1, 7);
            c.argument("node -1", () -> x.status(-1, 5, 0, 0));
            c.argument("node 8", () -> x.status(8, 5, 0, 0));
            c.argument("no frame", () -> x.status(3, 4, 0, 0));
            c.argument("id 62", () -> x.status(3, 62, 0, 0));
            c.argument("not the publisher", () -> x.status(2, 5, 0, 0));
            c.argument("byte -1", () -> x.status(3, 5, -1, 0));
            c.argument("byte 2", () -> x.status(3, 5, 2, 0));
            c.argument("bit -1", () -> x.status(3, 5, 0, -1));
            c.argument("bit 8", () -> x.status(3, 5, 0, 8));
        });
        c.test("promise 4: the bit is said as the error is, and the error is over when it was said", () -> {
            LinCluster x = new LinCluster();
            x.frame(5, 8, 3, false);
            x.write(5, 7, 129);
            x.status(3, 5, 7, 7);
            x.listen(2, 5, true);
            x.slot(5, 130);
            x.run(130);
            c.equal("without an error it is 0", 1, x.byteAt(2, 5, 7));
            x.disturb(Wire.HEADER, 1);
            x.run(130);
            c.equal("error", 1, x.told(3, 1));
            Wire.until(x, 260 + Wire.HEADER + 89);
            c.equal("error until the last bit", 1, x.told(3, 1));
            x.run(1);
            c.equal("with an error it is 1", 129, x.byteAt(2, 5, 7));
            c.equal("said: no error", 0, x.told(3, 1));
            c.equal("the count stays", 1, x.told(3, 5));
            Wire.until(x, 519);
            c.equal("0 again", 1, x.byteAt(2, 5, 7));
            c.equal("its own byte stays", 129, x.byteAt(3, 5, 7));
        });
        c.test("promise 4: another frame said wholly leaves the error", () -> {
            LinCluster x = new LinCluster();
            x.frame(5, 1, 3, false);
            x.frame(6, 1, 3, false);
            x.status(3, 5, 0, 0);
            x.slot(5, 60);
            x.slot(6, 60);
            x.disturb(Wire.HEADER, 1);
            x.run(120);
            c.equal("said 6", 1, x.told(3, 3));
            c.equal("has its error", 1, x.told(3, 1));
            x.run(60);
            c.equal("said 5", 2, x.told(3, 3));
            c.equal("has none", 0, x.told(3, 1));
        });
        c.test("promise 4: a node has one status: a new one ends the old", () -> {
            LinCluster x = new LinCluster();
            x.frame(5, 1, 3, false);
            x.frame(6, 1, 3, false);
            x.listen(2, 5, true);
            x.listen(2, 6, true);
            x.status(3, 5, 0, 0);
            x.status(3, 6, 0, 2);
            x.slot(5, 60);
            x.slot(6, 60);
            x.disturb(Wire.HEADER, 1);
            x.run(180);
            c.equal("6 has it, and ends the error", 4, x.byteAt(2, 6, 0));
            c.equal("5 has it not", 0, x.byteAt(2, 5, 0));
            c.equal("no error", 0, x.told(3, 1));
        });
        c.test("promise 4: told while it says: the bit from the next saying on, the end as it is then", () -> {
            LinCluster x = new LinCluster();
            x.frame(5, 1, 3, false);
            x.listen(2, 5, true);
            x.slot(5, 60);
            x.disturb(Wire.HEADER, 1);
            Wire.until(x, 60 + Wire.HEADER);
            x.status(3, 5, 0, 6);
            Wire.until(x, 119);
            c.equal("not in this saying", 0, x.byteAt(2, 5, 0));
            c.equal("no error any more", 0, x.told(3, 1));
        });
        c.test("promise 4: told ahead of the last bit of the PID it counts", () -> {
            LinCluster x = new LinCluster();
            x.frame(5, 1, 3, false);
            x.listen(2, 5, true);
            x.slot(5, 60);
            x.disturb(Wire.HEADER, 1);
            Wire.until(x, 60 + Wire.HEADER - 1);
            x.status(3, 5, 0, 6);
            Wire.until(x, 119);
            c.equal("in this saying", 64, x.byteAt(2, 5, 0));
        });
    }

    private static void space(Checks c) {
        c.test("promise 5: what it was, and illegal arguments", () -> {
            LinCluster x = new LinCluster();
            c.equal("first", 0, x.space(7, 8));
            c.equal("then", 8, x.space(7, 3));
            c.equal("another's", 0, x.space(0, 1));
            c.argument("node -1", () -> x.space(-1, 0));
            c.argument("node 8", () -> x.space(8, 0));
            c.argument("bits -1", () -> x.space(7, -1));
            c.argument("bits 9", () -> x.space(7, 9));
            c.equal("nothing changed", 3, x.space(7, 3));
        });
        c.test("promise 5: so many bits 1 ahead of the response", () -> {
            for (int bits = 0; bits <= 8; bits++) {
                LinCluster x = new LinCluster();
                x.frame(7, 1, 2, true);
                x.write(7, 0, 0x0F);
                x.space(2, bits);
                x.slot(7, 62);
                String due = Wire.header(7) + "1".repeat(bits) + Wire.characters(0x0F, 255 - 0x47 - 0x0F);
                c.equal("space " + bits, due, Wire.heard(x, due.length()));
                c.equal("said", 1, x.told(2, 3));
            }
        });
        c.test("promise 5: told with the last bit of the PID passed, it counts from the next saying on", () -> {
            LinCluster x = new LinCluster();
            x.frame(7, 1, 2, true);
            x.slot(7, 70);
            x.run(Wire.HEADER);
            x.space(2, 5);
            c.equal("begins at once", Wire.characters(0, 255 - 0x47), Wire.heard(x, 20));
            Wire.until(x, 70 + Wire.HEADER);
            c.equal("next one", "11111" + Wire.characters(0, 255 - 0x47), Wire.heard(x, 25));
        });
    }

    private static void slot(Checks c) {
        c.test("promise 6: its number, 16 at most", () -> {
            LinCluster x = new LinCluster();
            x.frame(7, 1, 2, true);
            for (int i = 0; i < 16; i++) {
                c.equal("number", i, x.slot(7, i % 2 == 0 ? 50 : 400));
            }
            c.state("a 17th", () -> x.slot(7, 50));
            c.argument("illegal argument first", () -> x.slot(7, 49));
        });
        c.test("promise 6: the 16th is one like the others, the 17th is not there", () -> {
            LinCluster x = new LinCluster();
            x.frame(7, 1, 2, true);
            x.frame(8, 1, 3, true);
            for (int i = 0; i < 15; i++) {
                x.slot(7, 60);
            }
            c.equal("the 16th", 15, x.slot(7, 70));
            c.state("the 17th", () -> x.slot(8, 80));
            Wire.until(x, 15 * 60 + 1);
            c.equal("at hand", 15, x.count(1));
            Wire.until(x, 15 * 60 + 70 + 1);
            c.equal("then 0 again", 0, x.count(1));
            c.equal("begun", 17, x.count(2));
            c.equal("7 was said in all 16", 16, x.told(2, 3));
            Wire.until(x, 2 * (15 * 60 + 70));
            c.equal("8 never", 0, x.told(3, 3));
        });
        c.test("promise 6: illegal arguments and time", () -> {
            LinCluster x = new LinCluster();
            x.frame(7, 1, 2, true);
            c.argument("bits 49", () -> x.slot(7, 49));
            c.argument("bits 401", () -> x.slot(7, 401));
            c.argument("no frame", () -> x.slot(8, 50));
            c.argument("id -1", () -> x.slot(-1, 50));
            c.argument("id 62", () -> x.slot(62, 50));
            x.run(1);
            c.state("above time 0", () -> x.slot(7, 50));
            c.argument("illegal argument first", () -> x.slot(8, 50));
            c.equal("no slot came of that", LinCluster.NONE, x.count(1));
        });
        c.test("promise 6: slots in their order, each with its bit times, then 0 again", () -> {
            LinCluster x = new LinCluster();
            x.frame(7, 1, 2, true);
            x.frame(8, 1, 3, false);
            x.slot(7, 60);
            x.slot(8, 75);
            String first = Wire.header(7) + Wire.characters(0, 255 - 0x47);
            String second = Wire.header(8) + Wire.characters(0, 255);
            String due = first + "1".repeat(6) + second + "1".repeat(21) + first;
            c.equal("the line", due, Wire.heard(x, due.length()));
        });
        c.test("promise 6: a slot that ends ahead of its response", () -> {
            LinCluster x = new LinCluster();
            x.frame(7, 8, 2, true);
            x.listen(3, 7, true);
            x.slot(7, 50);
            x.write(7, 1, 255);
            String due = Wire.header(7) + Wire.characters(0, 255).substring(0, 16) + "0".repeat(13) + "1";
            c.equal("the line", due, Wire.heard(x, due.length()));
            c.equal("the publisher met another bit", 1, x.told(2, 5));
            c.equal("the listener too", 1, x.told(3, 5));
            c.equal("both are in the header", 33, 10 * x.told(2, 6) + x.told(3, 6));
        });
    }
}
