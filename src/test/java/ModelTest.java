import java.util.Random;

/** Runs of calls drawn from fixed seeds, each answer held against the model's. */
public final class ModelTest {
    private static final int RUNS = 6000;
    private static final int CALLS = 512;
    private static final int MOST_AT_ONCE = 3;

    private static final Due due = new Due();
    private static final int[] resultsSeen = new int[5];
    private static int decidedGivenUp = 0;
    private static int lettersLost = 0;
    private static int roundsSeen = 0;
    private static int mendsSeen = 0;

    private final Random random;
    private final int run;
    private final PolledHouses x = new PolledHouses();
    private final Model m = new Model();
    private final int deposits;
    private final int mostBlocks;
    private final int damagePercent;
    private final int troublePercent;
    private int calls = 0;

    private ModelTest(int run) {
        this.run = run;
        random = new Random(run * 7919L + 13);
        deposits = 1 + random.nextInt(3) * random.nextInt(3);
        mostBlocks = new int[] {1, 2, 4, 10, 16}[random.nextInt(5)];
        damagePercent = new int[] {0, 2, 6, 15}[random.nextInt(4)];
        troublePercent = new int[] {1, 5, 20}[random.nextInt(3)];
    }

    public static void main(String[] args) {
        for (int run = 0; run < RUNS && due.wrongCount() == 0; run++) {
            new ModelTest(run).play();
        }
        reached("agreed", resultsSeen[1]);
        reached("mended", resultsSeen[2]);
        reached("three different", resultsSeen[3]);
        reached("given up when decided", decidedGivenUp);
        reached("letters lost to a full row", lettersLost);
        reached("rounds ended", roundsSeen);
        reached("blocks mended", mendsSeen);
        due.end();
    }

    /** Runs that never come to a state would say nothing of it. */
    private static void reached(String what, int times) {
        System.out.println(what + ": " + times);
        if (times < 100) {
            due.fail(what + " was reached " + times + " times alone");
        }
    }

    private void play() {
        for (int d = 0; d < deposits; d++) {
            deposit(d, 1 + random.nextInt(mostBlocks));
        }
        while (calls <= CALLS - MOST_AT_ONCE && due.wrongCount() == 0) {
            anyCall();
        }
        for (Model.Poll p : m.polls) {
            resultsSeen[p.result]++;
            decidedGivenUp += p.result == 4 && p.decided ? 1 : 0;
        }
        lettersLost += m.lost;
        roundsSeen += m.round - 1;
        mendsSeen += m.mends[0] + m.mends[1] + m.mends[2];
    }

    private void is(String call, long got, long want) {
        calls++;
        due.is("run " + run + ": " + call, got, want);
    }

    private void is(String call, boolean got, boolean want) {
        is(call, got ? 1 : 0, want ? 1 : 0);
    }

    private boolean chance(int percent) {
        return random.nextInt(100) < percent;
    }

    /** Mostly 0 .. bound - 1, now and then what lies just outside or far away. */
    private int upTo(int bound) {
        if (!chance(3) && bound > 0) {
            return random.nextInt(bound);
        }
        int[] edges = {-1, bound, bound + 1, Integer.MIN_VALUE, Integer.MAX_VALUE};
        return edges[random.nextInt(edges.length)];
    }

    private int anyPoll() {
        int count = m.polls.size();
        return chance(70) ? Math.max(1, count - random.nextInt(7)) : upTo(count + 2);
    }

    private void deposit(int d, int blocks) {
        int fill = random.nextInt();
        is("deposit(" + d + ", " + blocks + ", " + fill + ")", x.deposit(d, blocks, fill), m.deposit(d, blocks, fill));
    }

    private void anyCall() {
        if (chance(damagePercent)) {
            damage();
        } else if (chance(troublePercent)) {
            trouble();
        } else if (chance(65)) {
            is("step()", x.step(), m.step());
        } else if (chance(55)) {
            poll();
        } else {
            question();
        }
    }

    private void damage() {
        int house = upTo(3);
        int d = upTo(deposits);
        int i = upTo(4 * mostBlocks);
        // Few bits, so that houses are damaged alike, and mended by damage, often enough.
        int mask = chance(80) ? 1 << random.nextInt(2) : random.nextInt();
        is("damage(" + house + ", " + d + ", " + i + ", " + mask + ")", x.damage(house, d, i, mask),
            m.damage(house, d, i, mask));
    }

    private void poll() {
        int d = upTo(deposits);
        int part = upTo(Math.min(8, mostBlocks));
        long nonce = random.nextLong();
        is("poll(" + d + ", " + part + ", " + nonce + ")", x.poll(d, part, nonce), m.poll(d, part, nonce));
    }

    private void trouble() {
        int k = upTo(m.letters.size());
        int p = anyPoll();
        int h = upTo(3);
        switch (random.nextInt(10)) {
            case 0, 1 -> is("lose(" + k + ")", x.lose(k), m.lose(k));
            case 2, 3 -> is("twice(" + k + ")", x.twice(k), m.twice(k));
            case 4, 5 -> is("again(" + p + ")", x.again(p), m.again(p));
            case 6 -> is("giveUp(" + p + ")", x.giveUp(p), m.giveUp(p));
            case 7 -> is("open(" + h + ")", x.open(h), m.setClosed(h, false));
            case 8 -> is("close(" + h + ")", x.close(h), m.setClosed(h, true));
            default -> {
                for (int house = 0; house < 3; house++) {
                    is("open(" + house + ")", x.open(house), m.setClosed(house, false));
                }
            }
        }
    }

    private void question() {
        int h = upTo(3);
        int d = upTo(6);
        int i = upTo(4 * mostBlocks);
        int part = upTo(8);
        int k = upTo(m.letters.size());
        int what = upTo(3);
        int p = anyPoll();
        long nonce = random.nextLong();
        switch (random.nextInt(12)) {
            case 0 -> deposit(d, upTo(mostBlocks + 1));
            case 1 -> is("blocks(" + d + ")", x.blocks(d), m.blocks(d));
            case 2 -> is("at(" + h + ", " + d + ", " + i + ")", x.at(h, d, i), m.at(h, d, i));
            case 3 -> is("sum(" + h + ", " + d + ", " + part + ", " + nonce + ")", x.sum(h, d, part, nonce),
                m.sum(h, d, part, nonce));
            case 4 -> is("letters()", x.letters(), m.letters.size());
            case 5 -> is("letter(" + k + ", " + what + ")", x.letter(k, what), m.letter(k, what));
            case 6 -> is("result(" + p + ")", x.result(p), m.result(p));
            case 7 -> is("round()", x.round(), m.round);
            case 8 -> is("done()", x.done(), m.done());
            case 9 -> is("parts()", x.parts(), m.parts());
            case 10 -> is("mends(" + h + ")", x.mends(h), m.mends(h));
            default -> is("disputes()", x.disputes(), m.disputes());
        }
    }
}
