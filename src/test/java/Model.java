import java.util.ArrayList;
import java.util.Arrays;
import java.util.List;
import java.util.TreeMap;

/**
 * The document a second time, in another way: the whole line is kept as a text, and what a node is at is read
 * anew from that text with every bit. Slow and plain, for comparison alone. Each call answers a number as a
 * text, or the name of what it throws.
 */
final class Model {
    private static final String ARGUMENT = "IllegalArgumentException";
    private static final String STATE = "IllegalStateException";

    private final int[][] frames = new int[62][];
    private final int[][] bytes = new int[62][8];
    private final boolean[][] listens = new boolean[8][62];
    private final int[][][] kept = new int[8][62][];
    private final int[][] takings = new int[8][62];
    private final int[][] status = new int[8][];
    private final int[] space = new int[8];
    private final List<int[]> slots = new ArrayList<>();
    private final TreeMap<Integer, Integer> disturbings = new TreeMap<>();
    private final int[] wakesUntil = new int[8];
    private final StringBuilder line = new StringBuilder();
    private final int[] at = new int[8];
    private final int[] awakeSince = new int[8];
    private final int[] from = new int[8];
    private final int[] inHand = new int[8];
    private final String[] toSay = new String[8];
    private final int[][] counts = new int[8][4];
    private final boolean[] error = new boolean[8];
    private int slot = -1;
    private int slotBegan = 0;
    private int nextBegin = 0;
    private int begun = 0;

    Model() {
        Arrays.fill(at, 1);
    }

    private int time() {
        return line.length();
    }

    private boolean isFrame(int id) {
        return id >= 0 && id <= 61 && frames[id] != null;
    }

    private static boolean in(int number, int least, int most) {
        return number >= least && number <= most;
    }

    private boolean knows(int node, int id) {
        return in(node, 0, 7) && isFrame(id) && (frames[id][1] == node || listens[node][id]);
    }

    String frame(int id, int length, int publisher, boolean enhanced) {
        if (!in(id, 0, 61) || !in(length, 1, 8) || !in(publisher, 0, 7)) {
            return ARGUMENT;
        }
        if (time() > 0) {
            return STATE;
        }
        frames[id] = new int[] {length, publisher, enhanced && id < 60 ? 1 : 0};
        Arrays.fill(bytes[id], 0);
        for (int node = 0; node < 8; node++) {
            listens[node][id] = false;
            if (status[node] != null && status[node][0] == id) {
                status[node] = null;
            }
        }
        return "";
    }

    String listen(int node, int id, boolean on) {
        if (!in(node, 0, 7) || !isFrame(id) || frames[id][1] == node) {
            return ARGUMENT;
        }
        boolean did = listens[node][id];
        if (!did) {
            kept[node][id] = new int[8];
            takings[node][id] = 0;
        }
        listens[node][id] = on;
        return did ? "1" : "0";
    }

    String status(int node, int id, int byteNumber, int bit) {
        if (!in(node, 0, 7) || !isFrame(id) || frames[id][1] != node || !in(byteNumber, 0, frames[id][0] - 1)
                || !in(bit, 0, 7)) {
            return ARGUMENT;
        }
        status[node] = new int[] {id, byteNumber, bit};
        return "";
    }

    String space(int node, int bits) {
        if (!in(node, 0, 7) || !in(bits, 0, 8)) {
            return ARGUMENT;
        }
        int was = space[node];
        space[node] = bits;
        return "" + was;
    }

    String slot(int id, int bits) {
        if (!isFrame(id) || !in(bits, 50, 400)) {
            return ARGUMENT;
        }
        if (time() > 0 || slots.size() == 16) {
            return STATE;
        }
        slots.add(new int[] {id, bits});
        return "" + (slots.size() - 1);
    }

    String write(int id, int i, int v) {
        if (!isFrame(id) || !in(i, 0, frames[id][0] - 1) || !in(v, 0, 255)) {
            return ARGUMENT;
        }
        int was = bytes[id][i];
        bytes[id][i] = v;
        return "" + was;
    }

    String disturb(int behind, int bit) {
        if (!in(behind, 0, 4000) || !in(bit, 0, 1)) {
            return ARGUMENT;
        }
        if (disturbings.size() == 200) {
            return STATE;
        }
        disturbings.put(time() + behind, bit);
        return "";
    }

    String wake(int node) {
        if (!in(node, 0, 7)) {
            return ARGUMENT;
        }
        wakesUntil[node] = time() + 8;
        return "";
    }

    String run(int n) {
        if (!in(n, 1, 2000)) {
            return ARGUMENT;
        }
        if (time() + n > 200000) {
            return STATE;
        }
        for (int i = 0; i < n; i++) {
            line.append(bitOf(time()));
            for (int node = 0; node < 8; node++) {
                look(node);
            }
        }
        return "" + time();
    }

    String byteAt(int node, int id, int i) {
        if (!knows(node, id) || !in(i, 0, frames[id][0] - 1)) {
            return ARGUMENT;
        }
        return "" + (frames[id][1] == node ? bytes[id][i] : kept[node][id][i]);
    }

    String taken(int node, int id) {
        if (!knows(node, id)) {
            return ARGUMENT;
        }
        return "" + (frames[id][1] == node ? 0 : takings[node][id]);
    }

    String told(int node, int what) {
        if (!in(node, 0, 7) || !in(what, 0, 6)) {
            return ARGUMENT;
        }
        if (what >= 2 && what <= 5) {
            return "" + counts[node][what - 2];
        }
        boolean holds = what == 0 ? at[node] > 0 : error[node];
        return what == 6 ? "" + at[node] : holds ? "1" : "0";
    }

    String count(int what) {
        if (!in(what, 0, 3)) {
            return ARGUMENT;
        }
        return "" + new int[] {time(), slot, begun, disturbings.size()}[what];
    }

    String line(int back) {
        if (!in(back, 1, 64)) {
            return ARGUMENT;
        }
        return back > time() ? "1" : "" + line.charAt(time() - back);
    }

    String checks(int id) {
        return isFrame(id) ? "" + (Wire.PIDS[id] + 256 * checksum(id, bytes[id])) : ARGUMENT;
    }

    private int checksum(int id, int[] data) {
        int sum = frames[id][2] == 1 ? Wire.PIDS[id] : 0;
        for (int i = 0; i < frames[id][0]; i++) {
            sum += data[i];
        }
        // Taking off 255 whenever it is above is the rest by 255, but 255 itself stays.
        return 255 - (sum == 0 ? 0 : (sum - 1) % 255 + 1);
    }

    private char bitOf(int now) {
        boolean zero = false;
        if (at[0] > 0 && !slots.isEmpty()) {
            if (now == nextBegin) {
                slot = (slot + 1) % slots.size();
                slotBegan = now;
                nextBegin = now + slots.get(slot)[1];
                begun++;
            }
            int place = now - slotBegan;
            zero = slot >= 0 && place < Wire.HEADER && Wire.header(slots.get(slot)[0]).charAt(place) == '0';
        }
        for (int node = 0; node < 8; node++) {
            zero |= now < wakesUntil[node];
            zero |= at[node] == 4 && toSay[node].charAt(now - from[node]) == '0';
        }
        Integer disturbed = disturbings.remove(now);
        return disturbed == null ? zero ? '0' : '1' : (char) ('0' + disturbed);
    }

    private boolean endsWith(String bits) {
        return time() >= bits.length() && line.substring(time() - bits.length()).equals(bits);
    }

    private void look(int node) {
        if (at[node] == 0) {
            if (endsWith("000001")) {
                at[node] = 1;
                awakeSince[node] = time();
                nextBegin = node == 0 ? time() + 50 : nextBegin;
            }
            return;
        }
        int zeros = time() - 1 - line.lastIndexOf("1");
        String heard = line.substring(from[node]);
        if (zeros == 11) {
            counts[node][3] += at[node] == 5 ? 1 : 0;
            error[node] |= at[node] == 5;
            at[node] = 2;
        } else if (at[node] == 2 && zeros == 0) {
            at[node] = 3;
            from[node] = time();
        } else if (at[node] == 3) {
            header(node, characters(heard));
        } else if (at[node] == 4) {
            say(node, heard);
        } else if (at[node] == 5) {
            take(node, characters(heard), heard.length());
        }
        if (time() - Math.max(awakeSince[node], line.lastIndexOf("0") + 1) >= 3000) {
            sleep(node);
        }
    }

    private void sleep(int node) {
        at[node] = 0;
        slot = node == 0 ? -1 : slot;
    }

    /** The characters that are whole in a text; -1 for one whose tenth bit is 0. */
    private static List<Integer> characters(String heard) {
        List<Integer> found = new ArrayList<>();
        int begin = heard.indexOf('0');
        while (begin >= 0 && begin + 10 <= heard.length()) {
            String value = new StringBuilder(heard.substring(begin + 1, begin + 9)).reverse().toString();
            found.add(heard.charAt(begin + 9) == '1' ? Integer.parseInt(value, 2) : -1);
            begin = heard.indexOf('0', begin + 10);
        }
        return found;
    }

    private void header(int node, List<Integer> found) {
        if (found.isEmpty() || found.size() == 1 && found.get(0) == 85) {
            return;
        }
        int id = 0;
        while (id < 62 && (found.size() < 2 || Wire.PIDS[id] != found.get(1))) {
            id++;
        }
        at[node] = 1;
        if (id == 62) {
            counts[node][0]++;
        } else if (isFrame(id) && frames[id][1] == node) {
            at[node] = 4;
            toSay[node] = response(node, id);
        } else if (isFrame(id) && listens[node][id]) {
            at[node] = 5;
        }
        from[node] = time();
        inHand[node] = id;
    }

    private String response(int node, int id) {
        int[] data = Arrays.copyOf(bytes[id], frames[id][0]);
        if (status[node] != null && status[node][0] == id) {
            int mark = 1 << status[node][2];
            data[status[node][1]] = data[status[node][1]] & ~mark | (error[node] ? mark : 0);
        }
        return "1".repeat(space[node]) + Wire.characters(data) + Wire.character(checksum(id, data));
    }

    private void say(int node, String heard) {
        if (!toSay[node].startsWith(heard)) {
            fail(node);
        } else if (toSay[node].length() == heard.length()) {
            counts[node][1]++;
            error[node] &= status[node] == null || status[node][0] != inHand[node];
            rest(node, characters(heard).get(0));
        }
    }

    private void take(int node, List<Integer> found, int passed) {
        int id = inHand[node];
        int length = frames[id][0];
        if (found.contains(-1)) {
            fail(node);
        } else if (found.size() == length + 1) {
            int[] data = new int[8];
            for (int i = 0; i < length; i++) {
                data[i] = found.get(i);
            }
            if (checksum(id, data) != found.get(length)) {
                fail(node);
                return;
            }
            counts[node][2]++;
            if (listens[node][id]) {
                kept[node][id] = data;
                takings[node][id]++;
            }
            rest(node, data[0]);
        } else if (passed >= 14 * (length + 1)) {
            fail(node);
        }
    }

    private void rest(int node, int first) {
        at[node] = 1;
        if (inHand[node] == 60 && first == 0) {
            sleep(node);
        }
    }

    private void fail(int node) {
        counts[node][3]++;
        error[node] = true;
        at[node] = 1;
    }
}
