/** What nodes on a bus make of errors; the promises are numbered in DOC.md. */
public final class CanErrors {
    private static final int UNKNOWN = -1;
    private static final int OUT_OF_RANGE = -2;
    private static final int WRONG_STATE = -3;
    private static final int NO_ROOM = -4;

    private static final int ACTIVE = 0;
    private static final int PASSIVE = 1;
    private static final int OFF = 2;

    private static final int WENT_WELL = 0;
    private static final int NO_ACKNOWLEDGEMENT = 5;
    private static final int ZERO_BEHIND_FLAG = 6;
    private static final int WRONG_BIT_IN_FLAG = 7;
    private static final int EIGHT_ZEROS_BEHIND_FLAG = 8;
    private static final int STUFFING_IN_ARBITRATION = 9;
    private static final int LAST_KIND = 10;

    private static final int MOST_NODES = 100;
    private static final int MOST_SENDING = 256;
    private static final int MOST_RECEIVING = 255;
    private static final int MOST_WHILE_ACTIVE = 127;
    private static final int RECEIVING_AFTER_PASSIVE = 119;
    private static final int HEAVY = 8;
    private static final int LIGHT = 1;

    private static final int NEW_FLAG = 6;
    private static final int LONGEST_FLAG = 10000;
    private static final int WAIT = 3;
    private static final int WAIT_OF_PASSIVE_SENDER = 11;

    private static final int ROWS_TO_COME_BACK = 128;
    private static final int GOOD_FRAMES_TO_FORGET = 100;
    private static final int MOST_OFFS_FOR_SHORT_DELAY = 5;
    private static final long SHORT_DELAY = 10L;
    private static final long LONG_DELAY = 100L;

    private final Node[] nodes;
    private int nodeCount;
    private long latestTime;

    public CanErrors() {
        nodes = new Node[MOST_NODES];
        nodeCount = 0;
        latestTime = 0L;
    }

    public int node() {
        if (nodeCount >= nodes.length) {
            return NO_ROOM;
        }
        nodes[nodeCount] = new Node();
        nodeCount++;
        return nodeCount;
    }

    public int event(int node, int kind, boolean sending) {
        Node found = find(node);
        if (found == null) {
            return UNKNOWN;
        }
        if (!isKind(kind)) {
            return OUT_OF_RANGE;
        }
        if (found.off || (found.listening && sending)) {
            return WRONG_STATE;
        }
        found.undergo(kind, sending);
        return found.condition();
    }

    public int counter(int node, boolean sending) {
        Node found = find(node);
        if (found == null) {
            return UNKNOWN;
        }
        return sending ? found.sendingErrors : found.receivingErrors;
    }

    public int state(int node) {
        Node found = find(node);
        if (found == null) {
            return UNKNOWN;
        }
        return found.condition();
    }

    public int recover(int node, int rows) {
        Node found = find(node);
        if (found == null) {
            return UNKNOWN;
        }
        if (rows < 1) {
            return OUT_OF_RANGE;
        }
        if (!found.off || !found.let) {
            return WRONG_STATE;
        }
        found.countRows(rows);
        return found.condition();
    }

    public int flag(int node) {
        Node found = find(node);
        if (found == null) {
            return UNKNOWN;
        }
        return found.flagBits;
    }

    public int manager(int node, long t) {
        Node found = find(node);
        if (found == null) {
            return UNKNOWN;
        }
        // The latest time is never below 0, so this refuses times below 0 as well.
        if (t < latestTime) {
            return OUT_OF_RANGE;
        }
        latestTime = t;
        return found.mayComeBack(t) ? 1 : 0;
    }

    public int shot(int node, boolean single) {
        Node found = find(node);
        if (found == null) {
            return UNKNOWN;
        }
        found.single = single;
        return found.framesGivenUp;
    }

    public int listen(int node, boolean on) {
        Node found = find(node);
        if (found == null) {
            return UNKNOWN;
        }
        if (found.off) {
            return WRONG_STATE;
        }
        boolean changed = found.listening != on;
        found.listening = on;
        found.flagBits = 0;
        return changed ? 1 : 0;
    }

    public int two(int node, int a, int b) {
        Node found = find(node);
        if (found == null) {
            return UNKNOWN;
        }
        if (!isKind(a) || !isKind(b) || a == WENT_WELL || b == WENT_WELL) {
            return OUT_OF_RANGE;
        }
        if (found.off) {
            return WRONG_STATE;
        }
        found.undergoBoth(Math.min(a, b), Math.max(a, b));
        return found.condition();
    }

    public int suspended(int node) {
        Node found = find(node);
        if (found == null) {
            return UNKNOWN;
        }
        if (found.off) {
            return WRONG_STATE;
        }
        return found.waitBits;
    }

    private Node find(int number) {
        if (number < 1 || number > nodeCount || number > nodes.length) {
            return null;
        }
        return nodes[number - 1];
    }

    private static boolean isKind(int kind) {
        return kind >= WENT_WELL && kind <= LAST_KIND;
    }

    private static boolean isError(int kind) {
        return isKind(kind) && kind != WENT_WELL && !isAboutFlag(kind);
    }

    private static boolean isAboutFlag(int kind) {
        return kind == ZERO_BEHIND_FLAG || kind == WRONG_BIT_IN_FLAG || kind == EIGHT_ZEROS_BEHIND_FLAG;
    }

    private static final class Node {
        int sendingErrors;
        int receivingErrors;
        boolean off;
        int flagBits;
        int waitBits;
        boolean single;
        int framesGivenUp;
        boolean listening;
        boolean wasSender;
        int goodFrames;
        int offsInRow;
        boolean asked;
        long firstAsked;
        boolean let;
        int rowsSeen;

        Node() {
        }

        int condition() {
            if (off) {
                return OFF;
            }
            boolean many = sendingErrors > MOST_WHILE_ACTIVE || receivingErrors > MOST_WHILE_ACTIVE;
            return many ? PASSIVE : ACTIVE;
        }

        void undergoBoth(int lower, int higher) {
            boolean asSender = wasSender && !listening;
            undergo(lower, asSender);
            boolean secondComes = !(isError(lower) && isError(higher));
            if (secondComes && !off) {
                undergo(higher, asSender);
            }
        }

        void undergo(int kind, boolean asSender) {
            wasSender = asSender;
            countGoodFrames(kind);
            if (single && asSender && isError(kind)) {
                framesGivenUp++;
            }
            if (!listening) {
                countErrors(kind, asSender);
                changeFlag(kind);
            }
            boolean passiveSender = asSender && condition() == PASSIVE;
            waitBits = passiveSender ? WAIT_OF_PASSIVE_SENDER : WAIT;
            if (sendingErrors >= MOST_SENDING) {
                goOff();
            }
        }

        void countGoodFrames(int kind) {
            if (isError(kind)) {
                goodFrames = 0;
            } else if (kind == WENT_WELL) {
                goodFrames = Math.min(goodFrames + 1, GOOD_FRAMES_TO_FORGET);
            }
            if (goodFrames >= GOOD_FRAMES_TO_FORGET) {
                offsInRow = 0;
            }
        }

        void countErrors(int kind, boolean asSender) {
            if (kind == WENT_WELL) {
                lowerCounter(asSender);
            } else if (asSender) {
                sendingErrors = Math.min(sendingErrors + senderPenalty(kind), MOST_SENDING);
            } else {
                receivingErrors = Math.min(receivingErrors + receiverPenalty(kind), MOST_RECEIVING);
            }
        }

        void lowerCounter(boolean asSender) {
            if (asSender) {
                sendingErrors = Math.max(sendingErrors - 1, 0);
            } else if (receivingErrors > MOST_WHILE_ACTIVE) {
                receivingErrors = RECEIVING_AFTER_PASSIVE;
            } else {
                receivingErrors = Math.max(receivingErrors - 1, 0);
            }
        }

        int senderPenalty(int kind) {
            if (kind == ZERO_BEHIND_FLAG || kind == STUFFING_IN_ARBITRATION) {
                return 0;
            }
            // A passive node that is alone on the bus must not drive itself off it.
            if (kind == NO_ACKNOWLEDGEMENT && condition() == PASSIVE) {
                return 0;
            }
            return HEAVY;
        }

        int receiverPenalty(int kind) {
            return isAboutFlag(kind) ? HEAVY : LIGHT;
        }

        void changeFlag(int kind) {
            if (kind == WENT_WELL) {
                flagBits = 0;
            } else if (isError(kind)) {
                flagBits = NEW_FLAG;
            } else if (flagBits > 0) {
                int more = kind == EIGHT_ZEROS_BEHIND_FLAG ? 8 : 1;
                flagBits = Math.min(flagBits + more, LONGEST_FLAG);
            }
        }

        void goOff() {
            off = true;
            offsInRow++;
            goodFrames = 0;
            flagBits = 0;
            asked = false;
            let = false;
            rowsSeen = 0;
        }

        boolean mayComeBack(long time) {
            if (!off) {
                return true;
            }
            if (!asked) {
                asked = true;
                firstAsked = time;
                return false;
            }
            // Both times are 0 or above, so the difference can't wrap around.
            if (time - firstAsked >= delay()) {
                let = true;
            }
            return let;
        }

        long delay() {
            return offsInRow > MOST_OFFS_FOR_SHORT_DELAY ? LONG_DELAY : SHORT_DELAY;
        }

        void countRows(int rows) {
            // Compared with what is missing, since a sum could wrap around.
            if (rows >= ROWS_TO_COME_BACK - rowsSeen) {
                comeBack();
            } else {
                rowsSeen += rows;
            }
        }

        void comeBack() {
            off = false;
            sendingErrors = 0;
            receivingErrors = 0;
            flagBits = 0;
            waitBits = 0;
        }
    }
}
