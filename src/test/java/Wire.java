/** What the document says of bits, written out as texts of 0 and 1, and ways to bring a cluster to a place. */
final class Wire {
    static final int HEADER = 34;

    private Wire() {
    }

    /** The PIDs of the IDs 0 .. 61 as the LIN standard's table has them. */
    static final int[] PIDS = {
        0x80, 0xC1, 0x42, 0x03, 0xC4, 0x85, 0x06, 0x47, 0x08, 0x49, 0xCA, 0x8B, 0x4C, 0x0D, 0x8E, 0xCF,
        0x50, 0x11, 0x92, 0xD3, 0x14, 0x55, 0xD6, 0x97, 0xD8, 0x99, 0x1A, 0x5B, 0x9C, 0xDD, 0x5E, 0x1F,
        0x20, 0x61, 0xE2, 0xA3, 0x64, 0x25, 0xA6, 0xE7, 0xA8, 0xE9, 0x6A, 0x2B, 0xEC, 0xAD, 0x2E, 0x6F,
        0xF0, 0xB1, 0x32, 0x73, 0xB4, 0xF5, 0x76, 0x37, 0x78, 0x39, 0xBA, 0xFB, 0x3C, 0x7D};

    static String character(int value) {
        StringBuilder text = new StringBuilder("0");
        for (int i = 0; i < 8; i++) {
            text.append(value >> i & 1);
        }
        return text.append('1').toString();
    }

    static String characters(int... values) {
        StringBuilder text = new StringBuilder();
        for (int value : values) {
            text.append(character(value));
        }
        return text.toString();
    }

    static boolean isPid(int value) {
        for (int pid : PIDS) {
            if (pid == value) {
                return true;
            }
        }
        return false;
    }

    static String header(int id) {
        return "0".repeat(13) + "1" + character(85) + character(PIDS[id]);
    }

    /** Runs so many bit times and answers the line in them, the oldest first. */
    static String heard(LinCluster x, int bits) {
        StringBuilder text = new StringBuilder();
        int left = bits;
        while (left > 0) {
            int part = Math.min(left, 64);
            x.run(part);
            for (int back = part; back >= 1; back--) {
                text.append(x.line(back));
            }
            left -= part;
        }
        return text.toString();
    }

    /** Disturbs the line to be this text, beginning so many bit times behind TIME. */
    static void force(LinCluster x, int behind, String bits) {
        for (int i = 0; i < bits.length(); i++) {
            x.disturb(behind + i, bits.charAt(i) - '0');
        }
    }

    static void pass(LinCluster x, int bits) {
        int left = bits;
        while (left > 0) {
            int part = Math.min(left, 2000);
            x.run(part);
            left -= part;
        }
    }

    /** Runs until TIME. */
    static void until(LinCluster x, int time) {
        pass(x, time - x.count(0));
    }

    /** All that can be asked of a cluster without a change. */
    static String picture(LinCluster x) {
        StringBuilder text = new StringBuilder();
        for (int what = 0; what < 4; what++) {
            text.append(' ').append(x.count(what));
        }
        text.append(" line ");
        for (int back = 1; back <= 64; back++) {
            text.append(x.line(back));
        }
        for (int node = 0; node < 8; node++) {
            text.append(" node");
            for (int what = 0; what < 7; what++) {
                text.append(' ').append(x.told(node, what));
            }
        }
        for (int id = 0; id < 62; id++) {
            text.append(frameOf(x, id));
        }
        return text.toString();
    }

    private static String frameOf(LinCluster x, int id) {
        StringBuilder text = new StringBuilder();
        try {
            text.append(" frame ").append(id).append(' ').append(x.checks(id));
        } catch (IllegalArgumentException e) {
            return "";
        }
        for (int node = 0; node < 8; node++) {
            for (int i = 0; i < 8; i++) {
                try {
                    text.append(i == 0 ? " at " + node + ":" + x.taken(node, id) : "");
                    text.append(' ').append(x.byteAt(node, id, i));
                } catch (IllegalArgumentException e) {
                    break;
                }
            }
        }
        return text.toString();
    }
}
