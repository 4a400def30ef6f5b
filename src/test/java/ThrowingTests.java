/** A call that throws changes nothing, and no call throws anything else: all arguments near and far out of bounds. */
final class ThrowingTests {
    private static final int[] ODD = {Integer.MIN_VALUE, -65, -1, 62, 63, 64, 256, 4001, 200001, Integer.MAX_VALUE};

    private ThrowingTests() {
    }

    static void all(Checks c) {
        c.test("calls that throw change nothing, now or later", () -> {
            LinCluster x = lively();
            LinCluster y = lively();
            for (int part = 0; part < 12; part++) {
                for (int odd : ODD) {
                    throwAll(c, y, odd);
                }
                c.equal("part " + part, Wire.picture(x), Wire.picture(y));
                x.run(61);
                y.run(61);
            }
            c.equal("spaces", x.space(2, 0), y.space(2, 0));
        });
        c.test("illegal states change nothing, now or later", () -> {
            LinCluster x = lively();
            LinCluster y = lively();
            for (int part = 0; part < 12; part++) {
                x.run(61);
                y.run(61);
                c.state("frame", () -> y.frame(7, 2, 4, true));
                c.state("slot", () -> y.slot(7, 60));
                c.equal("part " + part, Wire.picture(x), Wire.picture(y));
            }
        });
        c.test("any small numbers in any call: what is thrown is of the document", () -> {
            LinCluster x = lively();
            int[] some = {-1, 0, 1, 2, 7, 8, 9, 50, 60, 61, 62};
            for (int a : some) {
                for (int b : some) {
                    anyCall(c, x, a, b);
                }
            }
        });
    }

    private static LinCluster lively() {
        LinCluster x = new LinCluster();
        x.frame(7, 2, 2, true);
        x.frame(60, 8, 0, true);
        x.listen(3, 7, true);
        x.listen(5, 60, true);
        x.status(2, 7, 1, 4);
        x.space(2, 4);
        x.slot(7, 90);
        x.slot(60, 130);
        x.write(60, 0, 9);
        x.disturb(40, 0);
        x.disturb(300, 1);
        x.wake(6);
        return x;
    }

    private static void throwAll(Checks c, LinCluster x, int odd) {
        c.argument("frame id", () -> x.frame(odd, 1, 0, true));
        c.argument("frame length", () -> x.frame(7, odd, 0, true));
        c.argument("frame publisher", () -> x.frame(7, 1, odd, true));
        c.argument("listen node", () -> x.listen(odd, 7, false));
        c.argument("listen id", () -> x.listen(3, odd, false));
        c.argument("listen publisher", () -> x.listen(2, 7, true));
        c.argument("status node", () -> x.status(odd, 7, 0, 0));
        c.argument("status id", () -> x.status(2, odd, 0, 0));
        c.argument("status byte", () -> x.status(2, 7, odd, 0));
        c.argument("status bit", () -> x.status(2, 7, 0, odd));
        c.argument("space node", () -> x.space(odd, 1));
        c.argument("space bits", () -> x.space(2, odd));
        c.argument("slot id", () -> x.slot(odd, 60));
        c.argument("slot bits", () -> x.slot(7, odd == 62 || odd == 63 || odd == 64 || odd == 256 ? 401 : odd));
        c.argument("write id", () -> x.write(odd, 0, 1));
        c.argument("write i", () -> x.write(7, odd, 1));
        c.argument("write v", () -> x.write(7, 0, odd >= 62 && odd <= 64 ? -2 : odd));
        c.argument("disturb behind", () -> x.disturb(odd >= 62 && odd <= 256 ? -2 : odd, 0));
        c.argument("disturb bit", () -> x.disturb(0, odd));
        c.argument("wake", () -> x.wake(odd));
        c.argument("run", () -> x.run(odd >= 62 && odd <= 256 ? 0 : odd));
        c.argument("byteAt node", () -> x.byteAt(odd, 7, 0));
        c.argument("byteAt id", () -> x.byteAt(3, odd, 0));
        c.argument("byteAt i", () -> x.byteAt(3, 7, odd));
        c.argument("taken node", () -> x.taken(odd, 7));
        c.argument("taken id", () -> x.taken(3, odd));
        c.argument("told node", () -> x.told(odd, 0));
        c.argument("told what", () -> x.told(0, odd));
        c.argument("count", () -> x.count(odd));
        c.argument("line", () -> x.line(odd >= 62 && odd <= 64 ? 65 : odd));
        c.argument("checks", () -> x.checks(odd));
    }

    private static void anyCall(Checks c, LinCluster x, int a, int b) {
        Checks.Body[] calls = {
            () -> x.frame(a, b, a, true), () -> x.frame(b, 8, a, false), () -> x.listen(a, b, true),
            () -> x.listen(a, b, false), () -> x.status(a, b, a, b), () -> x.status(a, b, 0, 0),
            () -> x.space(a, b), () -> x.slot(a, b), () -> x.slot(a, 50 + b), () -> x.write(a, b, a),
            () -> x.write(a, 0, b), () -> x.disturb(a, b), () -> x.wake(a), () -> x.run(b), () -> x.byteAt(a, b, a),
            () -> x.byteAt(a, b, 0), () -> x.taken(a, b), () -> x.told(a, b), () -> x.count(a), () -> x.line(a),
            () -> x.checks(a)};
        for (int i = 0; i < calls.length; i++) {
            String thrown = Checks.thrownBy(calls[i]);
            boolean told = thrown.equals("nothing") || thrown.equals("IllegalArgumentException")
                    || thrown.equals("IllegalStateException");
            c.equal("call " + i + " with " + a + ", " + b + " threw " + thrown, 1, told ? 1 : 0);
        }
    }
}
