import java.util.HashSet;
import java.util.Set;

/** Tests told by the document's own sentences, and the plays on an object that such tests begin with. */
final class Sentences {
    static final int BAD = PolledHouses.BAD;
    static final int NO = PolledHouses.NO;
    static final int FULL = PolledHouses.FULL;
    static final int ASK = 1;
    static final int SUM = 2;
    static final int FETCH = 3;
    static final int COPY = 4;
    static final int AGREED = 1;
    static final int MENDED = 2;
    static final int DIFFERENT = 3;
    static final int GIVEN_UP = 4;
    static final int LEAST = Integer.MIN_VALUE;
    static final int MOST = Integer.MAX_VALUE;
    static final int ROW = 24;
    static final int[] NO_HOUSE = {-1, 3, LEAST, MOST};
    static final int[] NO_DEPOSIT = {-1, 6, LEAST, MOST};
    static final int[] NO_PART = {-1, 8, LEAST, MOST};
    private static final long FACTOR = 1099511628211L;

    private final Due due = new Due();
    private final Set<String> told = new HashSet<>();
    private String sentence = "";

    /** A sentence that is told twice, or of which nothing is seen, has no test of its own. */
    void holds(String words, Runnable test) {
        if (!told.add(words)) {
            due.fail("told twice: " + words);
        }
        sentence = words;
        int seenBefore = due.seenCount();
        test.run();
        if (due.seenCount() == seenBefore) {
            due.fail("nothing was seen of: " + words);
        }
    }

    void is(String call, long got, long want) {
        due.is("\"" + sentence + "\": " + call, got, want);
    }

    void is(String call, boolean got, boolean want) {
        due.is("\"" + sentence + "\": " + call, got, want);
    }

    void end() {
        System.out.println(told.size() + " sentences");
        due.end();
    }

    /** All that can be asked without changing anything; whether houses are open can't be asked so. */
    static String state(PolledHouses x) {
        StringBuilder all = new StringBuilder();
        all.append(x.round()).append(' ').append(x.done()).append(' ').append(x.parts());
        all.append(" disputes ").append(x.disputes()).append(" mends");
        for (int h = 0; h < 3; h++) {
            all.append(' ').append(x.mends(h));
        }
        all.append(" letters");
        for (int k = 0; k < x.letters(); k++) {
            all.append(' ').append(x.letter(k, 0));
            all.append('/').append(x.letter(k, 1)).append('/').append(x.letter(k, 2));
        }
        all.append(" results");
        for (int p = 1; x.result(p) != BAD && p < 512; p++) {
            all.append(' ').append(x.result(p));
        }
        for (int d = 0; d < 6; d++) {
            all.append(" deposit ").append(x.blocks(d));
            for (int part = 0; part < Math.min(8, x.blocks(d)); part++) {
                for (int h = 0; h < 3; h++) {
                    all.append(' ').append(x.sum(h, d, part, 1L));
                }
            }
        }
        return all.toString();
    }

    void unchanged(String before, PolledHouses x) {
        String after = state(x);
        is("nothing changes: " + before + " -> " + after, after.equals(before), true);
    }

    void isOpen(PolledHouses x, int house) {
        is("open(" + house + ") of an open house", x.open(house), false);
    }

    void isClosed(PolledHouses x, int house) {
        is("close(" + house + ") of a closed house", x.close(house), false);
    }

    PolledHouses with(int d, int blocks, int fill) {
        PolledHouses x = new PolledHouses();
        is("deposit(" + d + ", " + blocks + ", " + fill + ")", x.deposit(d, blocks, fill), 4 * blocks);
        return x;
    }

    void steps(PolledHouses x, int... kinds) {
        for (int kind : kinds) {
            is("step()", x.step(), kind);
        }
    }

    void letterIs(PolledHouses x, int k, int kind, int poll, int house) {
        is("letter(" + k + ", 0)", x.letter(k, 0), kind);
        is("letter(" + k + ", 1)", x.letter(k, 1), poll);
        is("letter(" + k + ", 2)", x.letter(k, 2), house);
    }

    /** The oldest letters go behind all the others, one by one. */
    void toTheBack(PolledHouses x, int count) {
        for (int i = 0; i < count; i++) {
            int before = x.letters();
            is("twice(0)", x.twice(0), before + 1);
            x.lose(0);
        }
    }

    /** The oldest letters go behind the others until this one is the oldest. */
    void toTheFront(PolledHouses x, int kind, int house) {
        for (int n = x.letters(); n > 0 && (x.letter(0, 0) != kind || x.letter(0, 2) != house); n--) {
            toTheBack(x, 1);
        }
        is("letter(0, 0)", x.letter(0, 0), kind);
        is("letter(0, 2)", x.letter(0, 2), house);
    }

    /** Copies of the oldest letter come to the row until it has as many as are wanted. */
    void crowd(PolledHouses x, int want) {
        for (int n = x.letters() + 1; n <= want; n++) {
            is("twice(0)", x.twice(0), n);
        }
    }

    /** A poll from an empty row to its agreement. */
    int agree(PolledHouses x, int d, int part) {
        int number = x.poll(d, part, 77L);
        steps(x, ASK, ASK, ASK, SUM, SUM, SUM);
        is("result(" + number + ")", x.result(number), AGREED);
        return number;
    }

    /** A poll from an empty row to its three FETCH. */
    int toFetch(PolledHouses x, int d, int part) {
        int number = x.poll(d, part, -77L);
        steps(x, ASK, ASK, ASK, SUM, SUM, SUM);
        is("letters()", x.letters(), 3);
        for (int h = 0; h < 3; h++) {
            letterIs(x, h, FETCH, number, h);
        }
        return number;
    }

    /** A poll from an empty row to where house 2's COPY is under way alone. */
    int toLastCopy(PolledHouses x, int d, int part) {
        int number = toFetch(x, d, part);
        steps(x, FETCH, FETCH, FETCH, COPY, COPY);
        is("letters()", x.letters(), 1);
        is("result(" + number + ")", x.result(number), 0);
        return number;
    }

    int decide(PolledHouses x, int d, int part, int want) {
        int number = toLastCopy(x, d, part);
        steps(x, COPY);
        is("result(" + number + ")", x.result(number), want);
        return number;
    }

    /** Deposit 0 with one block, in such a state that a poll of it comes to this result. */
    PolledHouses before(int result) {
        PolledHouses x = with(0, 1, 0);
        if (result != AGREED) {
            x.damage(0, 0, 0, 1);
        }
        if (result == DIFFERENT) {
            x.damage(1, 0, 0, 2);
        }
        return x;
    }

    /** Poll 1 has ended with this result, and the row is empty. */
    PolledHouses ended(int result) {
        PolledHouses x = before(result);
        if (result == AGREED) {
            agree(x, 0, 0);
        } else if (result == GIVEN_UP) {
            toLastCopy(x, 0, 0);
            x.close(1);
            steps(x, COPY);
            x.open(1);
        } else {
            decide(x, 0, 0, result);
        }
        is("result(1)", x.result(1), result);
        is("letters()", x.letters(), 0);
        return x;
    }

    /**
     * Poll 1 has ended with this result, and each letter to or from house 0 that it used is under way once
     * more: ASK and SUM, and FETCH and COPY behind them unless it was agreed.
     */
    PolledHouses endedWithLetters(int result) {
        PolledHouses x = before(result);
        x.poll(0, 0, 5L);
        x.twice(0);
        steps(x, ASK, ASK, ASK);
        toTheBack(x, 1);
        x.twice(0);
        steps(x, SUM, SUM, SUM);
        if (result != AGREED) {
            toTheBack(x, 2);
            x.twice(0);
            steps(x, FETCH, FETCH, FETCH);
            toTheBack(x, 3);
            x.twice(0);
            steps(x, COPY, COPY);
            if (result == GIVEN_UP) {
                x.close(1);
            }
            steps(x, COPY);
            x.open(1);
        }
        is("result(1)", x.result(1), result);
        is("letters()", x.letters(), result == AGREED ? 2 : 4);
        for (int k = 0; k < x.letters(); k++) {
            letterIs(x, k, ASK + k, 1, 0);
        }
        return x;
    }

    static long sumOf(long nonce, int... numbers) {
        long s = nonce;
        for (int n : numbers) {
            s = (s ^ n) * FACTOR;
        }
        return s;
    }

    /** The nonce with which the sum of these numbers is the one that is wanted. */
    static long nonceFor(long sum, int... numbers) {
        long inverse = FACTOR;
        for (int i = 0; i < 6; i++) {
            inverse *= 2 - FACTOR * inverse;
        }
        long s = sum;
        for (int i = numbers.length - 1; i >= 0; i--) {
            s = (s * inverse) ^ numbers[i];
        }
        return s;
    }
}
