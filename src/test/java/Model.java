import java.util.ArrayList;
import java.util.Arrays;
import java.util.List;

/**
 * The document told once more, as plainly as the Java library allows and without regard to cost: all polls
 * are kept, rounds are counted from them afresh at each question, and bytes are kept one by one.
 */
final class Model {
    static final class Poll {
        int deposit;
        int part;
        long nonce;
        int startedIn;
        int result;
        boolean decided;
        final Long[] sums = new Long[3];
        final int[][] copies = new int[3][];
    }

    static final class Letter {
        final int kind;
        final int poll;
        final int house;
        final long sum;
        final int[] bytes;

        Letter(int kind, int poll, int house, long sum, int[] bytes) {
            this.kind = kind;
            this.poll = poll;
            this.house = house;
            this.sum = sum;
            this.bytes = bytes;
        }
    }

    final int[][][] bytes = new int[3][6][];
    final boolean[] closed = new boolean[3];
    final int[] mends = new int[3];
    final List<Poll> polls = new ArrayList<>();
    final List<Letter> letters = new ArrayList<>();
    int round = 1;
    int lost = 0;

    int deposit(int d, int blocks, int fill) {
        if (d < 0 || d > 5 || blocks < 1 || blocks > 16) {
            return -1;
        }
        if (bytes[0][d] != null || anyClosed()) {
            return -2;
        }
        for (int h = 0; h < 3; h++) {
            bytes[h][d] = new int[4 * blocks];
            for (int i = 0; i < 4 * blocks; i++) {
                bytes[h][d][i] = (fill + 31 * i) & 255;
            }
        }
        return 4 * blocks;
    }

    int blocks(int d) {
        return d < 0 || d > 5 || bytes[0][d] == null ? 0 : bytes[0][d].length / 4;
    }

    int at(int house, int d, int i) {
        boolean there = house >= 0 && house < 3 && i >= 0 && i < 4 * blocks(d);
        return there ? bytes[house][d][i] : -1;
    }

    int damage(int house, int d, int i, int mask) {
        if (at(house, d, i) == -1) {
            return -1;
        }
        bytes[house][d][i] ^= mask & 255;
        return bytes[house][d][i];
    }

    private List<Integer> blocksOfPart(int d, int part) {
        List<Integer> found = new ArrayList<>();
        for (int b : new int[] {part, part + 8}) {
            if (b < blocks(d)) {
                found.add(b);
            }
        }
        return found;
    }

    long sum(int house, int d, int part, long nonce) {
        if (house < 0 || house > 2 || part < 0 || part > 7 || blocks(d) == 0) {
            return 0;
        }
        List<Integer> numbers = new ArrayList<>();
        for (int b : blocksOfPart(d, part)) {
            numbers.add(d);
            numbers.add(b);
            for (int j = 0; j < 4; j++) {
                numbers.add(bytes[house][d][4 * b + j]);
            }
        }
        long s = nonce;
        for (int n : numbers) {
            s = (s ^ n) * 1099511628211L;
        }
        return s;
    }

    private int[] copy(int house, int d, int part) {
        List<Integer> blocks = blocksOfPart(d, part);
        int[] copied = new int[4 * blocks.size()];
        for (int i = 0; i < copied.length; i++) {
            copied[i] = bytes[house][d][4 * blocks.get(i / 4) + i % 4];
        }
        return copied;
    }

    private boolean anyClosed() {
        return closed[0] || closed[1] || closed[2];
    }

    private void send(int kind, int poll, int house, long sum, int[] copied) {
        if (letters.size() < 24) {
            letters.add(new Letter(kind, poll, house, sum, copied));
        } else {
            lost++;
        }
    }

    private void sendAll(int kind, int poll) {
        for (int h = 0; h < 3; h++) {
            send(kind, poll, h, 0, null);
        }
    }

    int poll(int d, int part, long nonce) {
        if (d < 0 || d > 5 || part < 0 || part > 7) {
            return -1;
        }
        if (blocksOfPart(d, part).isEmpty()) {
            return -2;
        }
        if (polls.stream().filter(p -> p.result == 0).count() == 6) {
            return -3;
        }
        Poll p = new Poll();
        p.deposit = d;
        p.part = part;
        p.nonce = nonce;
        p.startedIn = round;
        polls.add(p);
        sendAll(1, polls.size());
        return polls.size();
    }

    private boolean isPoll(int poll) {
        return poll >= 1 && poll <= polls.size();
    }

    int again(int poll) {
        if (!isPoll(poll)) {
            return -1;
        }
        Poll p = polls.get(poll - 1);
        if (p.result != 0) {
            return -2;
        }
        boolean allSums = !Arrays.asList(p.sums).contains(null);
        int sent = 0;
        for (int h = 0; h < 3; h++) {
            if (allSums ? p.copies[h] == null : p.sums[h] == null) {
                send(allSums ? 3 : 1, poll, h, 0, null);
                sent++;
            }
        }
        return sent;
    }

    int step() {
        if (letters.isEmpty()) {
            return 0;
        }
        Letter l = letters.remove(0);
        Poll p = polls.get(l.poll - 1);
        if (p.result != 0) {
            return l.kind;
        }
        if (l.kind == 1 && !closed[l.house]) {
            send(2, l.poll, l.house, sum(l.house, p.deposit, p.part, p.nonce), null);
        } else if (l.kind == 3 && !closed[l.house]) {
            send(4, l.poll, l.house, 0, copy(l.house, p.deposit, p.part));
        } else if (l.kind == 2 && p.sums[l.house] == null) {
            p.sums[l.house] = l.sum;
            afterSum(p, l.poll);
        } else if (l.kind == 4 && p.copies[l.house] == null && !Arrays.asList(p.sums).contains(null)) {
            p.copies[l.house] = l.bytes;
            if (p.copies[0] != null && p.copies[1] != null && p.copies[2] != null) {
                p.result = decide(p);
                p.decided = true;
            }
        }
        turnRound();
        return l.kind;
    }

    private void afterSum(Poll p, int number) {
        if (Arrays.asList(p.sums).contains(null)) {
            return;
        }
        if (p.sums[0].equals(p.sums[1]) && p.sums[0].equals(p.sums[2])) {
            p.result = 1;
        } else {
            sendAll(3, number);
        }
    }

    private static int[] blockIn(int[] copied, int n) {
        return Arrays.copyOfRange(copied, 4 * n, 4 * n + 4);
    }

    private static boolean alike(Poll p, int a, int b, int n) {
        return Arrays.equals(blockIn(p.copies[a], n), blockIn(p.copies[b], n));
    }

    private int decide(Poll p) {
        List<Integer> blocks = blocksOfPart(p.deposit, p.part);
        for (int n = 0; n < blocks.size(); n++) {
            if (!alike(p, 0, 1, n) && !alike(p, 0, 2, n) && !alike(p, 1, 2, n)) {
                return 3;
            }
        }
        for (int h = 0; h < 3; h++) {
            if (closed[h] || !Arrays.equals(p.copies[h], copy(h, p.deposit, p.part))) {
                return 4;
            }
        }
        for (int n = 0; n < blocks.size(); n++) {
            mend(p, n, blocks.get(n));
        }
        return 2;
    }

    private void mend(Poll p, int n, int block) {
        int odd = -1;
        if (alike(p, 1, 2, n) && !alike(p, 0, 1, n)) {
            odd = 0;
        } else if (alike(p, 0, 2, n) && !alike(p, 0, 1, n)) {
            odd = 1;
        } else if (alike(p, 0, 1, n) && !alike(p, 0, 2, n)) {
            odd = 2;
        }
        if (odd == -1) {
            return;
        }
        int[] right = blockIn(p.copies[odd == 0 ? 1 : 0], n);
        System.arraycopy(right, 0, bytes[odd][p.deposit], 4 * block, 4);
        mends[odd]++;
    }

    private boolean isDone(int d, int part) {
        return polls.stream().anyMatch(p -> p.deposit == d && p.part == part && p.startedIn == round
            && (p.result == 1 || p.result == 2));
    }

    int done() {
        int count = 0;
        for (int d = 0; d < 6; d++) {
            for (int part = 0; part < 8; part++) {
                count += isDone(d, part) ? 1 : 0;
            }
        }
        return count;
    }

    int parts() {
        int count = 0;
        for (int d = 0; d < 6; d++) {
            for (int part = 0; part < 8; part++) {
                count += blocksOfPart(d, part).isEmpty() ? 0 : 1;
            }
        }
        return count;
    }

    private void turnRound() {
        if (parts() > 0 && done() == parts()) {
            round++;
        }
    }

    int lose(int k) {
        return k < 0 || k >= letters.size() ? -1 : letters.remove(k).kind;
    }

    int twice(int k) {
        if (k < 0 || k >= letters.size()) {
            return -1;
        }
        if (letters.size() == 24) {
            return -3;
        }
        letters.add(letters.get(k));
        return letters.size();
    }

    int letter(int k, int what) {
        if (k < 0 || k >= letters.size() || what < 0 || what > 2) {
            return -1;
        }
        Letter l = letters.get(k);
        return what == 0 ? l.kind : what == 1 ? l.poll : l.house;
    }

    boolean giveUp(int poll) {
        if (!isPoll(poll) || polls.get(poll - 1).result != 0) {
            return false;
        }
        polls.get(poll - 1).result = 4;
        return true;
    }

    int result(int poll) {
        return isPoll(poll) ? polls.get(poll - 1).result : -1;
    }

    boolean setClosed(int house, boolean value) {
        if (house < 0 || house > 2 || closed[house] == value) {
            return false;
        }
        closed[house] = value;
        return true;
    }

    int mends(int house) {
        return house < 0 || house > 2 ? -1 : mends[house];
    }

    int disputes() {
        return (int) polls.stream().filter(p -> p.result == 3).count();
    }
}
