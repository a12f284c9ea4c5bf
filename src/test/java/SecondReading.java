import java.util.ArrayList;
import java.util.List;

/**
 * The document read a second time, apart from the class: tables for what a kind adds, and for each
 * node a text of what happened to it, from which IN A ROW is told anew at every question.
 */
final class SecondReading {
    private static final String ERRORS = " 1 2 3 4 5 9 10 ";
    private static final int[] SENDER_ADDS = {-1, 8, 8, 8, 8, 8, 0, 8, 8, 0, 8};
    private static final int[] RECEIVER_ADDS = {-1, 1, 1, 1, 1, 1, 8, 8, 8, 1, 1};
    private static final int[] FLAG_GROWS = {0, 0, 0, 0, 0, 0, 1, 1, 8, 0, 0};

    private final List<Member> members = new ArrayList<>();
    private final List<Long> times = new ArrayList<>();

    int node() {
        if (members.size() == 100) {
            return -4;
        }
        members.add(new Member());
        return members.size();
    }

    int event(int node, int kind, boolean sending) {
        if (unknown(node)) {
            return -1;
        }
        if (kind < 0 || kind > 10) {
            return -2;
        }
        Member member = members.get(node - 1);
        if (member.state() == 2 || member.alone && sending) {
            return -3;
        }
        member.happens(kind, sending);
        return member.state();
    }

    int counter(int node, boolean sending) {
        return unknown(node) ? -1 : members.get(node - 1).counters[sending ? 1 : 0];
    }

    int state(int node) {
        return unknown(node) ? -1 : members.get(node - 1).state();
    }

    int recover(int node, int rows) {
        if (unknown(node)) {
            return -1;
        }
        if (rows < 1) {
            return -2;
        }
        Member member = members.get(node - 1);
        if (member.state() != 2 || !member.isLet()) {
            return -3;
        }
        member.rows += rows;
        if (member.rows >= 128) {
            member.isBack();
        }
        return member.state();
    }

    int flag(int node) {
        return unknown(node) ? -1 : members.get(node - 1).flag;
    }

    int manager(int node, long t) {
        if (unknown(node)) {
            return -1;
        }
        if (t < 0 || times.stream().anyMatch(before -> t < before)) {
            return -2;
        }
        times.add(t);
        Member member = members.get(node - 1);
        if (member.state() != 2) {
            return 1;
        }
        member.askings.add(t);
        return member.isLet() ? 1 : 0;
    }

    int shot(int node, boolean single) {
        if (unknown(node)) {
            return -1;
        }
        members.get(node - 1).single = single;
        return members.get(node - 1).givenUp;
    }

    int listen(int node, boolean on) {
        if (unknown(node)) {
            return -1;
        }
        Member member = members.get(node - 1);
        if (member.state() == 2) {
            return -3;
        }
        int other = member.alone == on ? 0 : 1;
        member.alone = on;
        member.flag = 0;
        return other;
    }

    int two(int node, int a, int b) {
        if (unknown(node)) {
            return -1;
        }
        if (a < 1 || a > 10 || b < 1 || b > 10) {
            return -2;
        }
        Member member = members.get(node - 1);
        if (member.state() == 2) {
            return -3;
        }
        boolean part = !member.alone && member.story.lastIndexOf("s") > member.story.lastIndexOf("r");
        int state = event(node, a < b ? a : b, part);
        if (state == 2 || error(a) && error(b)) {
            return state;
        }
        return event(node, a < b ? b : a, part);
    }

    int suspended(int node) {
        if (unknown(node)) {
            return -1;
        }
        Member member = members.get(node - 1);
        return member.state() == 2 ? -3 : member.waits;
    }

    private boolean unknown(int node) {
        return node < 1 || node > members.size();
    }

    private static boolean error(int kind) {
        return ERRORS.contains(" " + kind + " ");
    }

    /** Its story: s or r for the part, then 0 for a good frame, E for an ERROR, f for kinds 6 to 8; O for OFF. */
    private static final class Member {
        final int[] counters = {0, 0};
        String story = "";
        int flag = 0;
        int waits = 0;
        boolean single = false;
        int givenUp = 0;
        boolean alone = false;
        long rows = 0;
        List<Long> askings = new ArrayList<>();

        int state() {
            if (counters[1] == 256) {
                return 2;
            }
            return counters[0] > 127 || counters[1] > 127 ? 1 : 0;
        }

        void happens(int kind, boolean sending) {
            int before = state();
            story += (sending ? "s" : "r") + (kind == 0 ? "0" : error(kind) ? "E" : "f");
            if (sending && single && error(kind)) {
                givenUp++;
            }
            if (!alone) {
                count(kind, sending, before);
                flag = kind == 0 ? 0 : error(kind) ? 6 : flag == 0 ? 0 : Math.min(10000, flag + FLAG_GROWS[kind]);
            }
            waits = sending && state() == 1 ? 11 : 3;
            if (state() == 2) {
                story += "O";
                flag = 0;
                rows = 0;
                askings = new ArrayList<>();
            }
        }

        private void count(int kind, boolean sending, int before) {
            int part = sending ? 1 : 0;
            int more = sending ? SENDER_ADDS[kind] : RECEIVER_ADDS[kind];
            if (sending && kind == 5 && before == 1) {
                more = 0;
            }
            boolean farDown = !sending && kind == 0 && counters[0] > 127;
            int sum = farDown ? 119 : counters[part] + more;
            counters[part] = Math.max(0, Math.min(sending ? 256 : 255, sum));
        }

        boolean isLet() {
            long wait = offsInARow() > 5 ? 100 : 10;
            return !askings.isEmpty() && askings.get(askings.size() - 1) - askings.get(0) >= wait;
        }

        private long offsInARow() {
            String plain = story.replaceAll("[srf]", "");
            int behind = plain.lastIndexOf("0".repeat(100));
            return plain.substring(behind < 0 ? 0 : behind).chars().filter(c -> c == 'O').count();
        }

        void isBack() {
            counters[0] = 0;
            counters[1] = 0;
            flag = 0;
            waits = 0;
        }
    }
}
