/**
 * Three houses that keep copies of the same deposits and poll one another about parts of them.
 * No call makes an object: all rows are made with the object itself and used again.
 */
public final class PolledHouses {
    public static final int BAD = -1;
    public static final int NO = -2;
    public static final int FULL = -3;

    private static final int HOUSES = 3;
    private static final int DEPOSITS = 6;
    private static final int MOST_BLOCKS = 16;
    private static final int BLOCK_BYTES = 4;
    private static final int PARTS = 8;
    private static final int MOST_OPEN_POLLS = 6;
    private static final int MOST_LETTERS = 24;
    /** An object is used for at most 512 calls, so no run has more polls than that. */
    private static final int MOST_POLLS = 512;
    /** Polls are numbered from 1. */
    private static final int NO_POLL = 0;
    private static final long SUM_FACTOR = 1099511628211L;

    private static final int ASK = 1;
    private static final int SUM = 2;
    private static final int FETCH = 3;
    private static final int COPY = 4;

    private static final int RUNNING = 0;
    private static final int AGREED = 1;
    private static final int MENDED = 2;
    private static final int THREE_DIFFERENT = 3;
    private static final int GIVEN_UP = 4;

    private final House[] houses = new House[HOUSES];
    /** The blocks of each deposit; 0 for one that is not there. */
    private final int[] blockCounts = new int[DEPOSITS];
    private final Row row = new Row();
    private final Poll[] places = new Poll[MOST_OPEN_POLLS];
    private final int[] results = new int[MOST_POLLS + 1];
    private final Rounds rounds = new Rounds();
    private int pollCount = 0;
    private int disputeCount = 0;

    public PolledHouses() {
        for (int h = 0; h < HOUSES; h++) {
            houses[h] = new House();
        }
        for (int i = 0; i < MOST_OPEN_POLLS; i++) {
            places[i] = new Poll();
        }
    }

    public int deposit(int d, int blocks, int fill) {
        if (!isDeposit(d) || blocks < 1 || blocks > MOST_BLOCKS) {
            return BAD;
        }
        if (blockCounts[d] > 0 || !allHousesOpen()) {
            return NO;
        }
        blockCounts[d] = blocks;
        for (int h = 0; h < HOUSES; h++) {
            houses[h].receive(d, blocks, fill);
        }
        return blocks * BLOCK_BYTES;
    }

    public int blocks(int d) {
        return isDeposit(d) ? blockCounts[d] : 0;
    }

    public int at(int house, int d, int i) {
        return isHouse(house) && isByte(d, i) ? houses[house].byteOf(d, i) : BAD;
    }

    public int damage(int house, int d, int i, int mask) {
        if (!isHouse(house) || !isByte(d, i)) {
            return BAD;
        }
        houses[house].flip(d, i, mask & 255);
        return houses[house].byteOf(d, i);
    }

    public long sum(int house, int d, int part, long nonce) {
        if (!isHouse(house) || !isPart(part) || !isDeposit(d) || blockCounts[d] == 0) {
            return 0;
        }
        return houses[house].sumOfPart(d, part, blockCounts[d], nonce);
    }

    public int poll(int d, int part, long nonce) {
        if (!isDeposit(d) || !isPart(part)) {
            return BAD;
        }
        if (part >= blockCounts[d]) {
            return NO;
        }
        Poll free = freePlace();
        if (free == null || pollCount >= MOST_POLLS) {
            return FULL;
        }
        pollCount++;
        results[pollCount] = RUNNING;
        free.begin(pollCount, d, part, nonce, rounds.number);
        sendToAwaited(free);
        return pollCount;
    }

    public int again(int poll) {
        if (!isPoll(poll)) {
            return BAD;
        }
        Poll running = runningPoll(poll);
        return running == null ? NO : sendToAwaited(running);
    }

    public int step() {
        if (row.count == 0) {
            return 0;
        }
        int kind = row.kinds[0];
        int house = row.houses[0];
        long content = row.contents[0];
        Poll poll = runningPoll(row.polls[0]);
        // It leaves before it arrives: what it calls forth may take its room.
        row.remove(0);
        if (poll != null) {
            arrive(poll, kind, house, content);
        }
        return kind;
    }

    public int lose(int k) {
        if (!row.has(k)) {
            return BAD;
        }
        int kind = row.kinds[k];
        row.remove(k);
        return kind;
    }

    public int twice(int k) {
        if (!row.has(k)) {
            return BAD;
        }
        if (row.count == MOST_LETTERS) {
            return FULL;
        }
        row.add(row.kinds[k], row.polls[k], row.houses[k], row.contents[k]);
        return row.count;
    }

    public int letters() {
        return row.count;
    }

    public int letter(int k, int what) {
        if (!row.has(k)) {
            return BAD;
        }
        switch (what) {
            case 0:
                return row.kinds[k];
            case 1:
                return row.polls[k];
            case 2:
                return row.houses[k];
            default:
                return BAD;
        }
    }

    public boolean giveUp(int poll) {
        Poll running = runningPoll(poll);
        if (running == null) {
            return false;
        }
        finish(running, GIVEN_UP);
        return true;
    }

    public int result(int poll) {
        return isPoll(poll) ? results[poll] : BAD;
    }

    public boolean close(int house) {
        if (!isHouse(house) || !houses[house].isOpen) {
            return false;
        }
        houses[house].isOpen = false;
        return true;
    }

    public boolean open(int house) {
        if (!isHouse(house) || houses[house].isOpen) {
            return false;
        }
        houses[house].isOpen = true;
        return true;
    }

    public int round() {
        return rounds.number;
    }

    public int done() {
        return rounds.doneCount;
    }

    public int parts() {
        int count = 0;
        for (int d = 0; d < DEPOSITS; d++) {
            count += Math.min(blockCounts[d], PARTS);
        }
        return count;
    }

    public int mends(int house) {
        return isHouse(house) ? houses[house].mendCount : BAD;
    }

    public int disputes() {
        return disputeCount;
    }

    private static boolean isHouse(int house) {
        return house >= 0 && house < HOUSES;
    }

    private static boolean isDeposit(int d) {
        return d >= 0 && d < DEPOSITS;
    }

    private static boolean isPart(int part) {
        return part >= 0 && part < PARTS;
    }

    private boolean isByte(int d, int i) {
        return isDeposit(d) && i >= 0 && i < blockCounts[d] * BLOCK_BYTES;
    }

    private boolean isPoll(int number) {
        return number >= 1 && number <= pollCount;
    }

    private boolean allHousesOpen() {
        for (int h = 0; h < HOUSES; h++) {
            if (!houses[h].isOpen) {
                return false;
            }
        }
        return true;
    }

    private Poll freePlace() {
        for (int i = 0; i < MOST_OPEN_POLLS; i++) {
            if (places[i].number == NO_POLL) {
                return places[i];
            }
        }
        return null;
    }

    /** The open poll of this number, or null: a poll that has ended has left its place. */
    private Poll runningPoll(int number) {
        if (!isPoll(number)) {
            return null;
        }
        for (int i = 0; i < MOST_OPEN_POLLS; i++) {
            if (places[i].number == number) {
                return places[i];
            }
        }
        return null;
    }

    private int sendToAwaited(Poll poll) {
        boolean hasAllSums = poll.sums.isComplete();
        int kind = hasAllSums ? FETCH : ASK;
        Answers awaited = hasAllSums ? poll.copies : poll.sums;
        int sent = 0;
        for (int h = 0; h < HOUSES; h++) {
            if (!awaited.isKnown[h]) {
                row.add(kind, poll.number, h, 0);
                sent++;
            }
        }
        return sent;
    }

    private void arrive(Poll poll, int kind, int house, long content) {
        switch (kind) {
            case ASK:
                answerAsk(poll, house);
                break;
            case SUM:
                takeSum(poll, house, content);
                break;
            case FETCH:
                answerFetch(poll, house);
                break;
            case COPY:
                takeCopy(poll, house, content);
                break;
            default:
                break;
        }
    }

    private void answerAsk(Poll poll, int house) {
        if (houses[house].isOpen) {
            int d = poll.deposit;
            long answer = houses[house].sumOfPart(d, poll.part, blockCounts[d], poll.nonce);
            row.add(SUM, poll.number, house, answer);
        }
    }

    private void answerFetch(Poll poll, int house) {
        if (houses[house].isOpen) {
            long answer = houses[house].bytesOfPart(poll.deposit, poll.part);
            row.add(COPY, poll.number, house, answer);
        }
    }

    private void takeSum(Poll poll, int house, long content) {
        if (!poll.sums.take(house, content) || !poll.sums.isComplete()) {
            return;
        }
        if (poll.sums.areAlike()) {
            finish(poll, AGREED);
        } else {
            sendToAwaited(poll);
        }
    }

    private void takeCopy(Poll poll, int house, long content) {
        if (poll.sums.isComplete() && poll.copies.take(house, content) && poll.copies.isComplete()) {
            finish(poll, decide(poll));
        }
    }

    private int decide(Poll poll) {
        if (poll.copiesAllDiffer(0) || poll.copiesAllDiffer(1)) {
            return THREE_DIFFERENT;
        }
        if (!allHousesOpen() || !areCopiesCurrent(poll)) {
            return GIVEN_UP;
        }
        mendBlock(poll, 0);
        mendBlock(poll, 1);
        return MENDED;
    }

    private boolean areCopiesCurrent(Poll poll) {
        for (int h = 0; h < HOUSES; h++) {
            if (houses[h].bytesOfPart(poll.deposit, poll.part) != poll.copies.values[h]) {
                return false;
            }
        }
        return true;
    }

    private void mendBlock(Poll poll, int half) {
        for (int h = 0; h < HOUSES; h++) {
            int mine = poll.copiedBlock(h, half);
            int next = poll.copiedBlock((h + 1) % HOUSES, half);
            int last = poll.copiedBlock((h + 2) % HOUSES, half);
            if (mine != next && next == last) {
                houses[h].mend(poll.deposit, poll.part + half * PARTS, next);
            }
        }
    }

    private void finish(Poll poll, int result) {
        results[poll.number] = result;
        poll.number = NO_POLL;
        if (result == THREE_DIFFERENT) {
            disputeCount++;
        }
        if (result == AGREED || result == MENDED) {
            rounds.finishPart(poll.deposit, poll.part, poll.startedIn);
            rounds.endIfAllDone(parts());
        }
    }

    /** One house's copies. A block is one int, its byte 0 lowest, so that blocks compare at once. */
    private static final class House {
        boolean isOpen = true;
        int mendCount = 0;
        final int[] words = new int[DEPOSITS * MOST_BLOCKS];

        void receive(int d, int blocks, int fill) {
            for (int i = 0; i < blocks * BLOCK_BYTES; i++) {
                flip(d, i, (fill + 31 * i) & 255);
            }
        }

        int byteOf(int d, int i) {
            return (words[place(d, i / BLOCK_BYTES)] >>> shift(i)) & 255;
        }

        void flip(int d, int i, int bits) {
            words[place(d, i / BLOCK_BYTES)] ^= bits << shift(i);
        }

        void mend(int d, int block, int word) {
            words[place(d, block)] = word;
            mendCount++;
        }

        /** Both blocks in one long, the lower one low; a block that the deposit lacks is 0 in every house. */
        long bytesOfPart(int d, int part) {
            long low = words[place(d, part)] & 0xFFFFFFFFL;
            long high = words[place(d, part + PARTS)];
            return (high << 32) | low;
        }

        long sumOfPart(int d, int part, int blocks, long nonce) {
            long s = nonce;
            for (int block = part; block < blocks; block += PARTS) {
                s = (s ^ d) * SUM_FACTOR;
                s = (s ^ block) * SUM_FACTOR;
                for (int j = 0; j < BLOCK_BYTES; j++) {
                    s = (s ^ byteOf(d, block * BLOCK_BYTES + j)) * SUM_FACTOR;
                }
            }
            return s;
        }

        private static int place(int d, int block) {
            return d * MOST_BLOCKS + block;
        }

        private static int shift(int i) {
            return (i % BLOCK_BYTES) * 8;
        }
    }

    /** What a poll has from each house: its first answer, and no later one. */
    private static final class Answers {
        final boolean[] isKnown = new boolean[HOUSES];
        final long[] values = new long[HOUSES];
        int count = 0;

        void forget() {
            for (int h = 0; h < HOUSES; h++) {
                isKnown[h] = false;
            }
            count = 0;
        }

        boolean take(int house, long value) {
            if (isKnown[house]) {
                return false;
            }
            isKnown[house] = true;
            values[house] = value;
            count++;
            return true;
        }

        boolean isComplete() {
            return count == HOUSES;
        }

        boolean areAlike() {
            return values[0] == values[1] && values[1] == values[2];
        }
    }

    /** A place for an open poll; its number is NO_POLL while the place is free. */
    private static final class Poll {
        int number = NO_POLL;
        int deposit = 0;
        int part = 0;
        long nonce = 0;
        int startedIn = 0;
        final Answers sums = new Answers();
        final Answers copies = new Answers();

        void begin(int newNumber, int ofDeposit, int ofPart, long withNonce, int inRound) {
            number = newNumber;
            deposit = ofDeposit;
            part = ofPart;
            nonce = withNonce;
            startedIn = inRound;
            sums.forget();
            copies.forget();
        }

        int copiedBlock(int house, int half) {
            return (int) (copies.values[house] >>> (32 * half));
        }

        boolean copiesAllDiffer(int half) {
            int a = copiedBlock(0, half);
            int b = copiedBlock(1, half);
            int c = copiedBlock(2, half);
            return a != b && b != c && a != c;
        }
    }

    /** The letters under way, the oldest first. */
    private static final class Row {
        final int[] kinds = new int[MOST_LETTERS];
        final int[] polls = new int[MOST_LETTERS];
        final int[] houses = new int[MOST_LETTERS];
        /** The sum or the bytes that a letter carries; 0 for ASK and FETCH. */
        final long[] contents = new long[MOST_LETTERS];
        int count = 0;

        boolean has(int k) {
            return k >= 0 && k < count;
        }

        /** A letter that finds the row full is lost. */
        void add(int kind, int poll, int house, long content) {
            if (count >= MOST_LETTERS) {
                return;
            }
            kinds[count] = kind;
            polls[count] = poll;
            houses[count] = house;
            contents[count] = content;
            count++;
        }

        void remove(int k) {
            count--;
            for (int i = k; i < count; i++) {
                kinds[i] = kinds[i + 1];
                polls[i] = polls[i + 1];
                houses[i] = houses[i + 1];
                contents[i] = contents[i + 1];
            }
        }
    }

    /** The round that runs, and which parts are done in it. */
    private static final class Rounds {
        int number = 1;
        int doneCount = 0;
        /** For each part of each deposit the last round in which it was done: a new round clears nothing. */
        final int[] doneIn = new int[DEPOSITS * PARTS];

        void finishPart(int d, int part, int startedIn) {
            int place = d * PARTS + part;
            if (startedIn == number && doneIn[place] != number) {
                doneIn[place] = number;
                doneCount++;
            }
        }

        void endIfAllDone(int partCount) {
            if (doneCount == partCount) {
                number++;
                doneCount = 0;
            }
        }
    }
}
