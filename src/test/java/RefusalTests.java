import java.util.ArrayList;
import java.util.List;

/**
 * Each refused call by itself, in every state that matters: what it throws, and that behind it everything is told
 * as if it had not been made, at once and some bit times later. Each call is made on an object of its own, as what
 * an object answers behind its 512th call is free.
 */
final class RefusalTests {
    private static final String ARGUMENT = "IllegalArgumentException";
    private static final String STATE = "IllegalStateException";
    private static final int LAST_TIME = 200000;
    private static final int FULL_SLOT = 150;

    interface Call {
        void on(LinCluster x);
    }

    interface Maker {
        LinCluster make();
    }

    /** A call and what it must throw. */
    private record Refusal(String name, String due, Call call) {
    }

    /** A state, with what is told in it and what is told some bit times later. */
    private record Scene(String name, Maker maker, String now, String later) {
        static Scene of(String name, Maker maker) {
            LinCluster x = maker.make();
            goOn(x);
            return new Scene(name, maker, Wire.picture(maker.make()), pictureAndSpaces(x));
        }
    }

    private final Checks c;

    private RefusalTests(Checks c) {
        this.c = c;
    }

    static void all(Checks c) {
        RefusalTests tests = new RefusalTests(c);
        tests.arguments();
        tests.states();
        tests.anyNumbers();
    }

    // ---- the states

    private static LinCluster made() {
        LinCluster x = new LinCluster();
        x.frame(7, 2, 2, true);
        x.frame(9, 8, 0, false);
        x.frame(60, 8, 4, true);
        x.listen(3, 7, true);
        x.listen(2, 9, true);
        x.listen(5, 60, true);
        x.listen(0, 60, true);
        x.status(2, 7, 1, 4);
        x.space(2, 4);
        x.space(4, 8);
        x.write(7, 0, 201);
        x.write(7, 1, 255);
        x.write(9, 7, 77);
        x.write(60, 0, 1);
        return x;
    }

    private static LinCluster slotted() {
        LinCluster x = made();
        x.slot(7, 90);
        x.slot(9, 140);
        x.slot(60, 150);
        // The first disturbs the publisher's SPACE: node 2 has an ERROR from there on.
        x.disturb(36, 0);
        x.disturb(1300, 0);
        x.wake(6);
        return x;
    }

    private static LinCluster slottedUntil(int time) {
        LinCluster x = slotted();
        Wire.until(x, time);
        return x;
    }

    private static LinCluster full(int time) {
        LinCluster x = made();
        for (int i = 0; i < 16; i++) {
            x.slot(i % 2 == 0 ? 7 : 9, FULL_SLOT);
        }
        Wire.pass(x, time);
        for (int i = 0; i < 200; i++) {
            x.disturb(19 * i, i / 2 % 2);
        }
        return x;
    }

    private static LinCluster asleep() {
        LinCluster x = slotted();
        x.write(60, 0, 0);
        Wire.until(x, 800);
        return x;
    }

    private static LinCluster quiet() {
        LinCluster x = made();
        Wire.until(x, 3300);
        return x;
    }

    private static LinCluster waking() {
        LinCluster x = quiet();
        x.wake(1);
        x.run(3);
        return x;
    }

    private static LinCluster pausing() {
        LinCluster x = asleep();
        x.wake(1);
        x.run(20);
        return x;
    }

    private static LinCluster late(int time) {
        LinCluster x = slotted();
        Wire.until(x, time);
        return x;
    }

    private static List<Scene> scenes() {
        List<Scene> scenes = new ArrayList<>();
        scenes.add(Scene.of("a new object", LinCluster::new));
        scenes.add(Scene.of("made without slots", RefusalTests::made));
        scenes.add(Scene.of("made with slots", RefusalTests::slotted));
        scenes.add(Scene.of("full in time 0", () -> full(0)));
        scenes.add(Scene.of("above time 0", () -> slottedUntil(1)));
        scenes.add(Scene.of("in a break", () -> slottedUntil(101)));
        scenes.add(Scene.of("in a header", () -> slottedUntil(120)));
        scenes.add(Scene.of("while a frame is said and taken", () -> slottedUntil(160)));
        scenes.add(Scene.of("with an error, ahead of its status", () -> slottedUntil(405)));
        scenes.add(Scene.of("while the status is said", () -> slottedUntil(430)));
        scenes.add(Scene.of("full above time 0", () -> full(300)));
        scenes.add(Scene.of("asleep by frame 60", RefusalTests::asleep));
        scenes.add(Scene.of("asleep by quiet", RefusalTests::quiet));
        scenes.add(Scene.of("waking", RefusalTests::waking));
        scenes.add(Scene.of("ahead of slot 0 again", RefusalTests::pausing));
        return scenes;
    }

    /** Just behind the last header of 16 slots: each slot, each disturbing near by and each waking has shown. */
    private static void goOn(LinCluster x) {
        Wire.pass(x, Math.min(LAST_TIME - x.count(0), 15 * FULL_SLOT + Wire.HEADER));
    }

    private static String pictureAndSpaces(LinCluster x) {
        StringBuilder text = new StringBuilder(Wire.picture(x));
        for (int node = 0; node < 8; node++) {
            text.append(' ').append(x.space(node, 0));
        }
        return text.toString();
    }

    // ---- the calls

    private static List<Refusal> refusedArguments() {
        List<Refusal> all = new ArrayList<>();
        making(all);
        listening(all);
        happening(all);
        telling(all);
        return all;
    }

    private static void add(List<Refusal> to, String name, Call call) {
        to.add(new Refusal(name, ARGUMENT, call));
    }

    /** Just out of its bounds at both sides, and as far out as can be. */
    private static int[] outOf(int least, int most) {
        return new int[] {least - 1, most + 1, Integer.MIN_VALUE, Integer.MAX_VALUE};
    }

    private static void making(List<Refusal> all) {
        for (int n : outOf(0, 61)) {
            add(all, "frame, id " + n, x -> x.frame(n, 1, 0, true));
            add(all, "slot, id " + n, x -> x.slot(n, 60));
        }
        for (int n : outOf(1, 8)) {
            add(all, "frame, length " + n, x -> x.frame(7, n, 0, true));
        }
        for (int n : outOf(0, 7)) {
            add(all, "frame, publisher " + n, x -> x.frame(7, 1, n, true));
            add(all, "space, node " + n, x -> x.space(n, 1));
        }
        for (int n : outOf(0, 8)) {
            add(all, "space, bits " + n, x -> x.space(2, n));
        }
        for (int n : outOf(50, 400)) {
            add(all, "slot, bits " + n, x -> x.slot(7, n));
        }
        add(all, "slot, no such frame", x -> x.slot(8, 60));
        add(all, "frame, all wrong", x -> x.frame(62, 9, 8, false));
    }

    private static void listening(List<Refusal> all) {
        for (int n : outOf(0, 7)) {
            add(all, "listen, node " + n, x -> x.listen(n, 7, true));
            add(all, "listen no more, node " + n, x -> x.listen(n, 7, false));
            add(all, "status, node " + n, x -> x.status(n, 7, 0, 0));
            add(all, "status, bit " + n, x -> x.status(2, 7, 0, n));
        }
        for (int n : outOf(0, 61)) {
            add(all, "listen, id " + n, x -> x.listen(3, n, true));
            add(all, "listen no more, id " + n, x -> x.listen(3, n, false));
            add(all, "status, id " + n, x -> x.status(2, n, 0, 0));
        }
        for (int n : outOf(0, 1)) {
            add(all, "status, byte " + n + " of 2", x -> x.status(2, 7, n, 0));
        }
        for (int n : outOf(0, 7)) {
            add(all, "status, byte " + n + " of 8", x -> x.status(0, 9, n, 0));
        }
        add(all, "listen, no such frame", x -> x.listen(3, 8, true));
        add(all, "listen no more, no such frame", x -> x.listen(3, 8, false));
        add(all, "listen, the publisher", x -> x.listen(2, 7, true));
        add(all, "listen no more, the publisher", x -> x.listen(2, 7, false));
        add(all, "status, no such frame", x -> x.status(2, 8, 0, 0));
        add(all, "status, a listener", x -> x.status(3, 7, 0, 0));
        add(all, "status, neither", x -> x.status(1, 7, 0, 0));
    }

    private static void happening(List<Refusal> all) {
        for (int n : outOf(0, 61)) {
            add(all, "write, id " + n, x -> x.write(n, 0, 1));
        }
        for (int n : outOf(0, 1)) {
            add(all, "write, byte " + n + " of 2", x -> x.write(7, n, 1));
            add(all, "disturb, bit " + n, x -> x.disturb(2, n));
        }
        for (int n : outOf(0, 7)) {
            add(all, "write, byte " + n + " of 8", x -> x.write(9, n, 1));
            add(all, "wake, node " + n, x -> x.wake(n));
        }
        for (int n : outOf(0, 255)) {
            add(all, "write, v " + n, x -> x.write(7, 1, n));
        }
        for (int n : outOf(0, 4000)) {
            add(all, "disturb, behind " + n, x -> x.disturb(n, 0));
        }
        for (int n : outOf(1, 2000)) {
            add(all, "run, n " + n, x -> x.run(n));
        }
        add(all, "write, no such frame", x -> x.write(8, 0, 1));
        add(all, "run, n -1", x -> x.run(-1));
    }

    private static void telling(List<Refusal> all) {
        for (int n : outOf(0, 7)) {
            add(all, "byteAt, node " + n, x -> x.byteAt(n, 7, 0));
            add(all, "byteAt, byte " + n + " of 8, at the publisher", x -> x.byteAt(0, 9, n));
            add(all, "byteAt, byte " + n + " of 8, at a listener", x -> x.byteAt(2, 9, n));
            add(all, "taken, node " + n, x -> x.taken(n, 7));
            add(all, "told, node " + n, x -> x.told(n, 0));
        }
        for (int n : outOf(0, 1)) {
            add(all, "byteAt, byte " + n + " of 2, at the publisher", x -> x.byteAt(2, 7, n));
            add(all, "byteAt, byte " + n + " of 2, at a listener", x -> x.byteAt(3, 7, n));
        }
        for (int n : outOf(0, 61)) {
            add(all, "byteAt, id " + n, x -> x.byteAt(3, n, 0));
            add(all, "taken, id " + n, x -> x.taken(3, n));
            add(all, "checks, id " + n, x -> x.checks(n));
        }
        for (int n : outOf(0, 6)) {
            add(all, "told, what " + n, x -> x.told(3, n));
        }
        for (int n : outOf(0, 3)) {
            add(all, "count, what " + n, x -> x.count(n));
        }
        for (int n : outOf(1, 64)) {
            add(all, "line, back " + n, x -> x.line(n));
        }
        add(all, "byteAt, no such frame", x -> x.byteAt(3, 8, 0));
        add(all, "byteAt, neither publisher nor listener", x -> x.byteAt(1, 7, 0));
        add(all, "taken, no such frame", x -> x.taken(3, 8));
        add(all, "taken, neither publisher nor listener", x -> x.taken(1, 7));
        add(all, "checks, no such frame", x -> x.checks(8));
    }

    // ---- the tests

    private void arguments() {
        List<Scene> scenes = scenes();
        scenesAreSo();
        for (Refusal refusal : refusedArguments()) {
            c.test("refused: " + refusal.name, () -> {
                for (Scene scene : scenes) {
                    refused(scene, refusal);
                }
            });
        }
    }

    private void scenesAreSo() {
        c.test("refused: the states in which that is asked are what they are called", () -> {
            c.equal("in a break", 2, slottedUntil(101).told(3, 6));
            c.equal("in a header", 3, slottedUntil(120).told(3, 6));
            c.equal("taking", 5, slottedUntil(160).told(2, 6));
            c.equal("saying", 4, slottedUntil(160).told(0, 6));
            c.equal("with an error", 1, slottedUntil(405).told(2, 1));
            c.equal("saying its status", 4, slottedUntil(430).told(2, 6));
            c.equal("taking it", 5, slottedUntil(430).told(3, 6));
            c.equal("full in time 0", 200, full(0).count(3));
            c.equal("full above time 0", 200, full(300).count(3));
            c.equal("asleep by frame 60", 100, 100 * asleep().told(2, 0) + asleep().told(0, 0) + asleep().told(4, 0));
            c.equal("asleep by quiet", 0, quiet().told(2, 0));
            c.equal("waking", 0, waking().line(1) + waking().told(1, 0));
            c.equal("awake ahead of slot 0", 1, pausing().told(0, 0));
            c.equal("no slot yet", LinCluster.NONE, pausing().count(1));
        });
    }

    private void refused(Scene scene, Refusal refusal) {
        LinCluster x = scene.maker.make();
        c.equal(scene.name, refusal.due, Checks.thrownBy(() -> refusal.call.on(x)));
        c.equal("behind it, " + scene.name, scene.now, Wire.picture(x));
        LinCluster y = scene.maker.make();
        Checks.thrownBy(() -> refusal.call.on(y));
        goOn(y);
        c.equal("later, " + scene.name, scene.later, pictureAndSpaces(y));
    }

    private void stateRefused(String name, Call call, Scene... scenes) {
        c.test("refused: " + name, () -> {
            for (Scene scene : scenes) {
                refused(scene, new Refusal(name, STATE, call));
            }
        });
    }

    private void states() {
        Scene early = Scene.of("above time 0", () -> slottedUntil(1));
        Scene bare = Scene.of("above time 0 without slots", RefusalTests::quiet);
        Scene fullAtFirst = Scene.of("full in time 0", () -> full(0));
        Scene fullLater = Scene.of("full above time 0", () -> full(300));
        Scene nearEnd = Scene.of("time 198001", () -> late(LAST_TIME - 1999));
        Scene end = Scene.of("time 200000", () -> late(LAST_TIME));
        stateRefused("frame, a new one above time 0", x -> x.frame(8, 1, 1, true), early, bare, fullLater, end);
        stateRefused("frame, anew above time 0", x -> x.frame(7, 2, 2, true), early, bare, fullLater, end);
        stateRefused("slot above time 0", x -> x.slot(7, 60), early, bare, fullLater, end);
        stateRefused("slot, a 17th", x -> x.slot(7, 60), fullAtFirst);
        stateRefused("disturb, a 201st", x -> x.disturb(1, 0), fullAtFirst, fullLater);
        stateRefused("disturb, a 201st, as far behind as may be", x -> x.disturb(4000, 0), fullAtFirst, fullLater);
        stateRefused("disturb, one of 200 anew", x -> x.disturb(19, 1), fullAtFirst, fullLater);
        stateRefused("run, a time of 200001", x -> x.run(2000), nearEnd);
        stateRefused("run, one bit time more at the end", x -> x.run(1), end);
        stateRefused("run, 2000 more at the end", x -> x.run(2000), end);
        c.test("refused: an illegal argument is named first, also where the state is illegal", () -> {
            refused(end, new Refusal("run", ARGUMENT, x -> x.run(2001)));
            refused(end, new Refusal("run", ARGUMENT, x -> x.run(0)));
            refused(fullAtFirst, new Refusal("slot", ARGUMENT, x -> x.slot(8, 60)));
            refused(fullAtFirst, new Refusal("disturb", ARGUMENT, x -> x.disturb(4001, 0)));
            refused(fullLater, new Refusal("frame", ARGUMENT, x -> x.frame(7, 9, 0, true)));
        });
    }

    private void anyNumbers() {
        c.test("any small numbers in any call: what is thrown is of the document", () -> {
            int[] some = {-1, 0, 1, 2, 7, 8, 9, 50, 60, 61, 62};
            for (int a : some) {
                for (int b : some) {
                    anyCall(slotted(), a, b);
                    anyCall(slottedUntil(160), a, b);
                }
            }
        });
    }

    private void anyCall(LinCluster x, int a, int b) {
        Checks.Body[] calls = {
            () -> x.frame(a, b, a, true), () -> x.frame(b, 8, a, false), () -> x.listen(a, b, true),
            () -> x.listen(a, b, false), () -> x.status(a, b, a, b), () -> x.status(a, b, 0, 0),
            () -> x.space(a, b), () -> x.slot(a, b), () -> x.slot(a, 50 + b), () -> x.write(a, b, a),
            () -> x.write(a, 0, b), () -> x.disturb(a, b), () -> x.wake(a), () -> x.run(b), () -> x.byteAt(a, b, a),
            () -> x.byteAt(a, b, 0), () -> x.taken(a, b), () -> x.told(a, b), () -> x.count(a), () -> x.line(a),
            () -> x.checks(a)};
        for (int i = 0; i < calls.length; i++) {
            String thrown = Checks.thrownBy(calls[i]);
            boolean told = thrown.equals("nothing") || thrown.equals(ARGUMENT) || thrown.equals(STATE);
            c.holds("call " + i + " with " + a + ", " + b + " threw " + thrown + ": of the document", told);
        }
    }
}
