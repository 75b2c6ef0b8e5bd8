/** Each promise by its number: ordinary inputs, the edges that the document names, and wrong inputs. */
public final class PromisesTest {
    private static final int BAD = PolledHouses.BAD;
    private static final int NO = PolledHouses.NO;
    private static final int FULL = PolledHouses.FULL;
    private static final int ASK = 1;
    private static final int SUM = 2;
    private static final int FETCH = 3;
    private static final int COPY = 4;
    private static final int LEAST = Integer.MIN_VALUE;
    private static final int MOST = Integer.MAX_VALUE;

    private static final Due due = new Due();

    public static void main(String[] args) {
        newObject();
        deposit();
        depositWhenClosed();
        blocks();
        at();
        damage();
        sum();
        sumOfTwoBlocks();
        poll();
        pollWhenFull();
        pollsSideBySide();
        pollAsksWithItsNonce();
        again();
        againForCopies();
        againAfterTheEnd();
        stepOrder();
        stepAsk();
        stepSum();
        stepSumTwice();
        stepSumsDiffer();
        stepFetch();
        stepCopy();
        stepCopyTwice();
        stepLettersOfEndedPoll();
        stepWhenRowIsFull();
        decideThreeDifferent();
        decideDifferentBeforeClosed();
        decideClosed();
        decideChanged();
        decideMendsEachHouse();
        decideTwoBlocksInTwoHouses();
        decideNothingToMend();
        lose();
        twice();
        twiceCarriesTheSame();
        letters();
        letter();
        giveUp();
        result();
        close();
        open();
        round();
        roundOfOldPoll();
        roundAndNewDeposit();
        done();
        parts();
        mends();
        disputes();
        due.end();
    }

    private static void steps(PolledHouses x, int... kinds) {
        for (int kind : kinds) {
            due.is("step()", x.step(), kind);
        }
    }

    private static PolledHouses withDeposit(int d, int blocks, int fill) {
        PolledHouses x = new PolledHouses();
        due.is("deposit(" + d + ", " + blocks + ", " + fill + ")", x.deposit(d, blocks, fill), blocks * 4);
        return x;
    }

    /** The poll's sums have come and its three FETCH are under way, with nothing else. */
    private static void stepToFetch(PolledHouses x) {
        steps(x, ASK, ASK, ASK, SUM, SUM, SUM);
        due.is("letters() before FETCH", x.letters(), 3);
        due.is("letter(0, 0)", x.letter(0, 0), FETCH);
    }

    private static void runAgreed(PolledHouses x, int d, int part) {
        int number = x.poll(d, part, 77L);
        steps(x, ASK, ASK, ASK, SUM, SUM, SUM);
        due.is("result(" + number + ") agreed", x.result(number), 1);
    }

    private static void runToDecision(PolledHouses x, int d, int part, int want) {
        int number = x.poll(d, part, -77L);
        stepToFetch(x);
        steps(x, FETCH, FETCH, FETCH, COPY, COPY, COPY);
        due.is("result(" + number + ") decided", x.result(number), want);
    }

    // Promise 1
    private static void newObject() {
        PolledHouses x = new PolledHouses();
        for (int d = 0; d < 6; d++) {
            due.is("1: blocks(" + d + ")", x.blocks(d), 0);
            due.is("1: poll(" + d + ", 0, 0)", x.poll(d, 0, 0L), NO);
        }
        for (int h = 0; h < 3; h++) {
            due.is("1: open(" + h + ")", x.open(h), false);
            due.is("1: mends(" + h + ")", x.mends(h), 0);
        }
        due.is("1: letters()", x.letters(), 0);
        due.is("1: step()", x.step(), 0);
        due.is("1: result(0)", x.result(0), BAD);
        due.is("1: result(1)", x.result(1), BAD);
        due.is("1: round()", x.round(), 1);
        due.is("1: done()", x.done(), 0);
        due.is("1: parts()", x.parts(), 0);
        due.is("1: disputes()", x.disputes(), 0);
        PolledHouses other = new PolledHouses();
        x.deposit(0, 1, 1);
        due.is("1: blocks(0) of another object", other.blocks(0), 0);
    }

    // Promise 2
    private static void deposit() {
        PolledHouses x = new PolledHouses();
        int[] noDeposit = {-1, 6, LEAST, MOST};
        for (int d : noDeposit) {
            due.is("2: deposit(" + d + ", 1, 0)", x.deposit(d, 1, 0), BAD);
        }
        int[] noBlocks = {0, 17, -1, LEAST, MOST};
        for (int blocks : noBlocks) {
            due.is("2: deposit(0, " + blocks + ", 0)", x.deposit(0, blocks, 0), BAD);
        }
        due.is("2: deposit(0, 1, 250)", x.deposit(0, 1, 250), 4);
        due.is("2: deposit(5, 16, MOST)", x.deposit(5, 16, MOST), 64);
        due.is("2: deposit(1, 2, LEAST + 3)", x.deposit(1, 2, LEAST + 3), 8);
        due.is("2: deposit(2, 2, -1)", x.deposit(2, 2, -1), 8);
        due.is("2: deposit(0, 2, 1) again", x.deposit(0, 2, 1), NO);
        due.is("2: deposit(0, 17, 1) again", x.deposit(0, 17, 1), BAD);
        due.is("2: blocks(0)", x.blocks(0), 1);
        for (int h = 0; h < 3; h++) {
            for (int i = 0; i < 4; i++) {
                due.is("2: at(h, 0, " + i + ")", x.at(h, 0, i), (250 + 31 * i) % 256);
            }
            for (int i = 0; i < 64; i++) {
                due.is("2: at(h, 5, " + i + ")", x.at(h, 5, i), (255 + 31 * i) % 256);
            }
            for (int i = 0; i < 8; i++) {
                due.is("2: at(h, 1, " + i + ")", x.at(h, 1, i), (3 + 31 * i) % 256);
                due.is("2: at(h, 2, " + i + ")", x.at(h, 2, i), (255 + 31 * i) % 256);
            }
        }
    }

    private static void depositWhenClosed() {
        for (int h = 0; h < 3; h++) {
            PolledHouses x = new PolledHouses();
            x.close(h);
            due.is("2: deposit(0, 1, 1), closed " + h, x.deposit(0, 1, 1), NO);
            due.is("2: deposit(6, 1, 1), closed " + h, x.deposit(6, 1, 1), BAD);
            due.is("2: deposit(0, 0, 1), closed " + h, x.deposit(0, 0, 1), BAD);
            due.is("2: blocks(0)", x.blocks(0), 0);
            x.open(h);
            due.is("2: deposit(0, 1, 1), open", x.deposit(0, 1, 1), 4);
        }
    }

    // Promise 3
    private static void blocks() {
        PolledHouses x = withDeposit(5, 16, 1);
        x.deposit(0, 1, 1);
        due.is("3: blocks(5)", x.blocks(5), 16);
        due.is("3: blocks(0)", x.blocks(0), 1);
        due.is("3: blocks(4)", x.blocks(4), 0);
        int[] noDeposit = {-1, 6, LEAST, MOST};
        for (int d : noDeposit) {
            due.is("3: blocks(" + d + ")", x.blocks(d), 0);
        }
    }

    // Promise 4
    private static void at() {
        PolledHouses x = withDeposit(5, 3, 9);
        due.is("4: at(0, 5, 0)", x.at(0, 5, 0), 9);
        due.is("4: at(2, 5, 11)", x.at(2, 5, 11), (9 + 31 * 11) % 256);
        due.is("4: at(2, 5, 8)", x.at(2, 5, 8), 1);
        int[][] wrong = {{-1, 5, 0}, {3, 5, 0}, {0, -1, 0}, {0, 6, 0}, {0, 4, 0}, {0, 5, -1}, {0, 5, 12},
            {LEAST, 5, 0}, {MOST, 5, 0}, {0, LEAST, 0}, {0, MOST, 0}, {0, 5, LEAST}, {0, 5, MOST}};
        for (int[] w : wrong) {
            due.is("4: at(" + w[0] + ", " + w[1] + ", " + w[2] + ")", x.at(w[0], w[1], w[2]), BAD);
            due.is("5: damage(" + w[0] + ", " + w[1] + ", " + w[2] + ", 1)", x.damage(w[0], w[1], w[2], 1), BAD);
        }
        x.close(1);
        due.is("4: at(1, 5, 0) of a closed house", x.at(1, 5, 0), 9);
    }

    // Promise 5
    private static void damage() {
        PolledHouses x = withDeposit(1, 2, 0);
        due.is("5: damage(1, 1, 3, 255)", x.damage(1, 1, 3, 255), 93 ^ 255);
        due.is("5: at(1, 1, 3)", x.at(1, 1, 3), 93 ^ 255);
        due.is("5: at(0, 1, 3)", x.at(0, 1, 3), 93);
        due.is("5: at(2, 1, 3)", x.at(2, 1, 3), 93);
        due.is("5: at(1, 1, 2)", x.at(1, 1, 2), 62);
        due.is("5: at(1, 1, 4)", x.at(1, 1, 4), 124);
        due.is("5: damage(0, 1, 0, 256)", x.damage(0, 1, 0, 256), 0);
        due.is("5: damage(0, 1, 0, 0x7F81)", x.damage(0, 1, 0, 0x7F81), 0x81);
        due.is("5: damage(0, 1, 0, -1)", x.damage(0, 1, 0, -1), 0x7E);
        due.is("5: damage(0, 1, 0, 0)", x.damage(0, 1, 0, 0), 0x7E);
        due.is("5: at(0, 1, 1)", x.at(0, 1, 1), 31);
        x.close(2);
        due.is("5: damage(2, 1, 7, 1) of a closed house", x.damage(2, 1, 7, 1), 216);
        due.is("5: at(2, 1, 7)", x.at(2, 1, 7), 216);
    }

    private static long sumOf(long nonce, int... numbers) {
        long s = nonce;
        for (int n : numbers) {
            s = (s ^ n) * 1099511628211L;
        }
        return s;
    }

    // Promise 6
    private static void sum() {
        PolledHouses x = withDeposit(3, 2, 200);
        due.is("6: sum(0, 3, 0, 1)", x.sum(0, 3, 0, 1L), sumOf(1L, 3, 0, 200, 231, 6, 37));
        due.is("6: sum(2, 3, 1, -1)", x.sum(2, 3, 1, -1L), sumOf(-1L, 3, 1, 68, 99, 130, 161));
        due.is("6: sum(1, 3, 1, 2^40)", x.sum(1, 3, 1, 1L << 40), sumOf(1L << 40, 3, 1, 68, 99, 130, 161));
        due.is("6: sum of a part without blocks", x.sum(0, 3, 2, -5L), -5L);
        due.is("6: sum of a part without blocks", x.sum(0, 3, 7, Long.MAX_VALUE), Long.MAX_VALUE);
        x.damage(1, 3, 0, 255);
        due.is("6: sum(1, 3, 0, 1)", x.sum(1, 3, 0, 1L), sumOf(1L, 3, 0, 55, 231, 6, 37));
        x.close(0);
        due.is("6: sum of a closed house", x.sum(0, 3, 0, 1L), sumOf(1L, 3, 0, 200, 231, 6, 37));
        int[][] wrong = {{-1, 3, 0}, {3, 3, 0}, {0, -1, 0}, {0, 6, 0}, {0, 2, 0}, {0, 3, -1}, {0, 3, 8},
            {LEAST, 3, 0}, {MOST, 3, 0}, {0, LEAST, 0}, {0, MOST, 0}, {0, 3, LEAST}, {0, 3, MOST}};
        for (int[] w : wrong) {
            due.is("6: sum(" + w[0] + ", " + w[1] + ", " + w[2] + ", 9)", x.sum(w[0], w[1], w[2], 9L), 0);
        }
    }

    private static void sumOfTwoBlocks() {
        PolledHouses x = withDeposit(5, 10, 0);
        due.is("6: sum(1, 5, 0, 0)", x.sum(1, 5, 0, 0L),
            sumOf(0L, 5, 0, 0, 31, 62, 93, 5, 8, 224, 255, 30, 61));
        due.is("6: sum(1, 5, 1, 4)", x.sum(1, 5, 1, 4L),
            sumOf(4L, 5, 1, 124, 155, 186, 217, 5, 9, 92, 123, 154, 185));
        due.is("6: sum(1, 5, 2, 4)", x.sum(1, 5, 2, 4L), sumOf(4L, 5, 2, 248, 23, 54, 85));
    }

    // Promise 7
    private static void poll() {
        PolledHouses x = withDeposit(2, 3, 0);
        int[] noDeposit = {-1, 6, LEAST, MOST};
        for (int d : noDeposit) {
            due.is("7: poll(" + d + ", 0, 0)", x.poll(d, 0, 0L), BAD);
        }
        int[] noPart = {-1, 8, LEAST, MOST};
        for (int part : noPart) {
            due.is("7: poll(2, " + part + ", 0)", x.poll(2, part, 0L), BAD);
            due.is("7: poll(3, " + part + ", 0)", x.poll(3, part, 0L), BAD);
        }
        due.is("7: poll(3, 0, 0), not there", x.poll(3, 0, 0L), NO);
        due.is("7: poll(2, 3, 0), no block", x.poll(2, 3, 0L), NO);
        due.is("7: poll(2, 7, 0), no block", x.poll(2, 7, 0L), NO);
        due.is("7: letters()", x.letters(), 0);
        due.is("7: poll(2, 2, 0)", x.poll(2, 2, 0L), 1);
        due.is("7: poll(2, 2, 0) once more", x.poll(2, 2, 0L), 2);
        due.is("7: letters()", x.letters(), 6);
        for (int k = 0; k < 6; k++) {
            due.is("7: letter(" + k + ", 0)", x.letter(k, 0), ASK);
            due.is("7: letter(" + k + ", 1)", x.letter(k, 1), 1 + k / 3);
            due.is("7: letter(" + k + ", 2)", x.letter(k, 2), k % 3);
        }
        for (int h = 0; h < 3; h++) {
            x.close(h);
        }
        due.is("7: poll(2, 0, 0), all closed", x.poll(2, 0, 0L), 3);
    }

    private static void pollWhenFull() {
        PolledHouses x = withDeposit(0, 16, 0);
        for (int part = 0; part < 6; part++) {
            due.is("7: poll(0, " + part + ", 0)", x.poll(0, part, 0L), part + 1);
        }
        due.is("7: poll(0, 6, 0), 6 open", x.poll(0, 6, 0L), FULL);
        due.is("7: poll(0, 8, 0), 6 open", x.poll(0, 8, 0L), BAD);
        due.is("7: poll(1, 0, 0), 6 open", x.poll(1, 0, 0L), NO);
        due.is("7: result(7)", x.result(7), BAD);
        due.is("7: letters()", x.letters(), 18);
        x.giveUp(3);
        due.is("7: poll(0, 6, 0), 5 open", x.poll(0, 6, 0L), 7);
        due.is("7: poll(0, 7, 0), 6 open", x.poll(0, 7, 0L), FULL);
        due.is("7: letters()", x.letters(), 21);
        x.giveUp(1);
        x.twice(0);
        due.is("7: poll(0, 7, 0) with room for two letters", x.poll(0, 7, 0L), 8);
        due.is("7: letters()", x.letters(), 24);
        due.is("7: letter(23, 2)", x.letter(23, 2), 1);
        due.is("7: letter(23, 1)", x.letter(23, 1), 8);
        x.giveUp(2);
        due.is("7: poll(0, 0, 1) with no room", x.poll(0, 0, 1L), 9);
        due.is("7: letters()", x.letters(), 24);
        due.is("7: result(9)", x.result(9), 0);
    }

    /** Two polls at once, each with the sums of its own part. */
    private static void pollsSideBySide() {
        PolledHouses x = withDeposit(0, 2, 0);
        x.poll(0, 0, 5L);
        x.poll(0, 1, 6L);
        steps(x, ASK, ASK, ASK, ASK, ASK, ASK, SUM, SUM, SUM, SUM, SUM, SUM);
        due.is("7: result(1)", x.result(1), 1);
        due.is("7: result(2)", x.result(2), 1);
        due.is("7: letters()", x.letters(), 0);
        x.damage(2, 0, 4, 1);
        x.poll(0, 0, 5L);
        x.poll(0, 1, 6L);
        steps(x, ASK, ASK, ASK, ASK, ASK, ASK, SUM, SUM, SUM, SUM, SUM, SUM);
        due.is("7: result(3)", x.result(3), 1);
        due.is("7: result(4)", x.result(4), 0);
    }

    /**
     * With nonce 1, and no other that is asked for here, the bytes in house 0 have the same sum as those in
     * the other houses: a poll that asks with another nonce than its own is found out.
     */
    private static void pollAsksWithItsNonce() {
        int[] first = {90, 248, 115, 16, 150, 148, 196, 203};
        int[] second = {11, 20, 170, 11, 51, 107, 16, 152};
        PolledHouses x = withDeposit(0, 9, 0);
        for (int n = 0; n < 8; n++) {
            int i = n < 4 ? n : 28 + n;
            for (int h = 0; h < 3; h++) {
                int want = h == 0 ? first[n] : second[n];
                due.is("7: damage to a chosen byte", x.damage(h, 0, i, x.at(h, 0, i) ^ want), want);
            }
        }
        due.is("7: sum(0, 0, 0, 1)", x.sum(0, 0, 0, 1L), x.sum(1, 0, 0, 1L));
        due.is("7: sum(0, 0, 0, 2) is another", x.sum(0, 0, 0, 2L) == x.sum(1, 0, 0, 2L), false);
        askWithNonce(x, 0L, false);
        askWithNonce(x, 1L, true);
        askWithNonce(x, 2L, false);
    }

    private static void askWithNonce(PolledHouses x, long nonce, boolean isAgreed) {
        int number = x.poll(0, 0, nonce);
        steps(x, ASK, ASK, ASK, SUM, SUM, SUM);
        due.is("7: result of a poll with nonce " + nonce, x.result(number), isAgreed ? 1 : 0);
        due.is("7: letters()", x.letters(), isAgreed ? 0 : 3);
        x.giveUp(number);
        for (int k = isAgreed ? 0 : 3; k > 0; k--) {
            due.is("10: lose(0)", x.lose(0), FETCH);
        }
    }

    // Promise 8
    private static void again() {
        PolledHouses x = withDeposit(0, 2, 0);
        x.poll(0, 0, 1L);
        int[] noPoll = {0, -1, 2, LEAST, MOST};
        for (int p : noPoll) {
            due.is("8: again(" + p + ")", x.again(p), BAD);
        }
        due.is("8: again(1)", x.again(1), 3);
        due.is("8: letters()", x.letters(), 6);
        due.is("8: lose(2)", x.lose(2), ASK);
        due.is("8: lose(1)", x.lose(1), ASK);
        steps(x, ASK, ASK, ASK, ASK, SUM);
        due.is("8: letters()", x.letters(), 3);
        for (int k = 0; k < 3; k++) {
            x.lose(0);
        }
        due.is("8: again(1), house 0 has answered", x.again(1), 2);
        due.is("8: letter(0, 0)", x.letter(0, 0), ASK);
        due.is("8: letter(0, 1)", x.letter(0, 1), 1);
        due.is("8: letter(0, 2)", x.letter(0, 2), 1);
        due.is("8: letter(1, 2)", x.letter(1, 2), 2);
        due.is("8: letters()", x.letters(), 2);
        for (int i = 0; i < 11; i++) {
            due.is("8: again(1)", x.again(1), 2);
        }
        due.is("8: letters()", x.letters(), 24);
        due.is("8: again(1), all are lost", x.again(1), 2);
        due.is("8: lose(0)", x.lose(0), ASK);
        due.is("8: again(1), one is lost", x.again(1), 2);
        due.is("8: letters()", x.letters(), 24);
        due.is("8: letter(23, 2)", x.letter(23, 2), 1);
    }

    private static void againForCopies() {
        PolledHouses x = withDeposit(0, 2, 0);
        x.damage(0, 0, 0, 1);
        x.poll(0, 0, 1L);
        stepToFetch(x);
        due.is("8: lose(0)", x.lose(0), FETCH);
        steps(x, FETCH, FETCH, COPY);
        due.is("8: lose(0)", x.lose(0), COPY);
        due.is("8: letters()", x.letters(), 0);
        due.is("8: again(1), copy of house 1 is there", x.again(1), 2);
        due.is("8: letter(0, 0)", x.letter(0, 0), FETCH);
        due.is("8: letter(0, 2)", x.letter(0, 2), 0);
        due.is("8: letter(1, 0)", x.letter(1, 0), FETCH);
        due.is("8: letter(1, 2)", x.letter(1, 2), 2);
        due.is("8: letters()", x.letters(), 2);
        steps(x, FETCH, FETCH, COPY, COPY);
        due.is("8: result(1)", x.result(1), 2);
        due.is("8: mends(0)", x.mends(0), 1);
    }

    private static void againAfterTheEnd() {
        PolledHouses x = withDeposit(0, 2, 0);
        runAgreed(x, 0, 0);
        due.is("8: again(1), agreed", x.again(1), NO);
        x.poll(0, 1, 1L);
        x.giveUp(2);
        due.is("8: again(2), given up", x.again(2), NO);
        due.is("8: letters()", x.letters(), 3);
    }

    // Promise 9
    private static void stepOrder() {
        PolledHouses x = withDeposit(0, 2, 0);
        due.is("9: step(), none", x.step(), 0);
        x.poll(0, 0, 1L);
        x.poll(0, 1, 1L);
        x.lose(1);
        steps(x, ASK);
        due.is("9: letter(0, 2)", x.letter(0, 2), 2);
        due.is("9: letter(0, 1)", x.letter(0, 1), 1);
        due.is("9: letters()", x.letters(), 5);
        due.is("9: letter(4, 0)", x.letter(4, 0), SUM);
        due.is("9: letter(4, 1)", x.letter(4, 1), 1);
        due.is("9: letter(4, 2)", x.letter(4, 2), 0);
        steps(x, ASK, ASK, ASK, ASK, SUM, SUM, SUM, SUM, SUM);
        due.is("9: step(), none", x.step(), 0);
        due.is("9: letters()", x.letters(), 0);
    }

    private static void stepAsk() {
        PolledHouses x = withDeposit(0, 1, 0);
        x.poll(0, 0, 1L);
        x.close(1);
        steps(x, ASK, ASK, ASK);
        due.is("9: letters(), house 1 was closed", x.letters(), 2);
        due.is("9: letter(0, 2)", x.letter(0, 2), 0);
        due.is("9: letter(1, 2)", x.letter(1, 2), 2);
        // The sum is that of the time of the ASK, though the house has changed when SUM arrives.
        x.damage(0, 0, 0, 1);
        steps(x, SUM, SUM);
        x.open(1);
        due.is("9: again(1)", x.again(1), 1);
        steps(x, ASK);
        x.close(1);
        steps(x, SUM);
        due.is("9: result(1), SUM of a house that closed since", x.result(1), 1);
    }

    private static void stepSum() {
        for (int h = 0; h < 3; h++) {
            PolledHouses x = withDeposit(0, 1, 0);
            x.damage(h, 0, 3, 128);
            x.poll(0, 0, 1L);
            stepToFetch(x);
            due.is("9: result(1), house " + h + " differs", x.result(1), 0);
        }
    }

    private static void stepSumTwice() {
        PolledHouses x = withDeposit(0, 1, 0);
        x.poll(0, 0, 1L);
        steps(x, ASK);
        due.is("9: twice(2)", x.twice(2), 4);
        x.lose(0);
        x.lose(0);
        steps(x, SUM, SUM);
        due.is("9: result(1) with one house's sum twice", x.result(1), 0);
        due.is("9: again(1)", x.again(1), 2);
        // House 1 is asked once more after it changed: its second sum differs and counts nothing.
        x.twice(0);
        steps(x, ASK, ASK);
        x.damage(1, 0, 0, 1);
        steps(x, ASK);
        x.twice(1);
        x.lose(1);
        due.is("9: letters(), a known sum is sent again", x.letters(), 3);
        steps(x, SUM, SUM);
        due.is("9: result(1) with two sums", x.result(1), 0);
        steps(x, SUM);
        due.is("9: result(1), the first sums count", x.result(1), 1);
    }

    private static void stepSumsDiffer() {
        PolledHouses x = withDeposit(0, 1, 0);
        x.damage(1, 0, 0, 1);
        x.poll(0, 0, 1L);
        x.twice(0);
        x.twice(1);
        steps(x, ASK, ASK, ASK, ASK, ASK);
        due.is("9: letters(), each ASK is answered", x.letters(), 5);
        steps(x, SUM, SUM, SUM);
        due.is("9: letters()", x.letters(), 5);
        steps(x, SUM, SUM);
        due.is("9: letters(), later SUM sends no FETCH", x.letters(), 3);
        for (int h = 0; h < 3; h++) {
            due.is("9: letter(" + h + ", 0)", x.letter(h, 0), FETCH);
            due.is("9: letter(" + h + ", 1)", x.letter(h, 1), 1);
            due.is("9: letter(" + h + ", 2)", x.letter(h, 2), h);
        }
    }

    private static void stepFetch() {
        PolledHouses x = withDeposit(0, 1, 0);
        x.damage(1, 0, 0, 1);
        x.poll(0, 0, 1L);
        stepToFetch(x);
        x.close(2);
        steps(x, FETCH, FETCH, FETCH);
        due.is("9: letters(), house 2 was closed", x.letters(), 2);
        for (int h = 0; h < 2; h++) {
            due.is("9: letter(" + h + ", 0)", x.letter(h, 0), COPY);
            due.is("9: letter(" + h + ", 1)", x.letter(h, 1), 1);
            due.is("9: letter(" + h + ", 2)", x.letter(h, 2), h);
        }
    }

    private static void stepCopy() {
        PolledHouses x = withDeposit(0, 1, 0);
        x.damage(1, 0, 0, 1);
        x.poll(0, 0, 1L);
        stepToFetch(x);
        // The copy is that of the time of the FETCH: damaged then, whole again at the end.
        steps(x, FETCH);
        x.damage(2, 0, 0, 1);
        steps(x, FETCH, FETCH);
        x.damage(2, 0, 0, 1);
        steps(x, COPY, COPY);
        due.is("9: result(1) with two copies", x.result(1), 0);
        steps(x, COPY);
        due.is("9: result(1)", x.result(1), 4);
        due.is("9: mends(0)", x.mends(0), 0);
    }

    private static void stepCopyTwice() {
        PolledHouses x = withDeposit(0, 1, 0);
        x.damage(1, 0, 0, 1);
        x.poll(0, 0, 1L);
        stepToFetch(x);
        x.twice(0);
        x.twice(3);
        steps(x, FETCH);
        x.damage(0, 0, 0, 4);
        steps(x, FETCH, FETCH, FETCH, FETCH);
        x.damage(0, 0, 0, 4);
        due.is("9: letters()", x.letters(), 5);
        steps(x, COPY, COPY);
        due.is("9: letter(0, 2)", x.letter(0, 2), 2);
        x.twice(0);
        x.lose(0);
        steps(x, COPY, COPY);
        due.is("9: result(1) with house 0's copy thrice", x.result(1), 0);
        steps(x, COPY);
        due.is("9: result(1), house 0's first copy counts", x.result(1), 2);
        due.is("9: mends(1)", x.mends(1), 1);
        due.is("9: at(1, 0, 0)", x.at(1, 0, 0), 0);
    }

    private static void stepLettersOfEndedPoll() {
        PolledHouses x = withDeposit(0, 1, 0);
        x.damage(0, 0, 0, 1);
        x.poll(0, 0, 1L);
        x.giveUp(1);
        steps(x, ASK, ASK, ASK);
        due.is("9: letters(), ASK of an ended poll", x.letters(), 0);
        x.poll(0, 0, 1L);
        steps(x, ASK, ASK, ASK);
        x.giveUp(2);
        steps(x, SUM, SUM, SUM);
        due.is("9: letters(), SUM of an ended poll", x.letters(), 0);
        x.poll(0, 0, 1L);
        stepToFetch(x);
        x.giveUp(3);
        steps(x, FETCH, FETCH, FETCH);
        due.is("9: letters(), FETCH of an ended poll", x.letters(), 0);
        x.poll(0, 0, 1L);
        stepToFetch(x);
        steps(x, FETCH, FETCH, FETCH);
        x.giveUp(4);
        // The new poll may stand where the ended one stood: it must not take that one's letters.
        x.poll(0, 0, 1L);
        steps(x, COPY, COPY, COPY);
        for (int p = 1; p <= 4; p++) {
            due.is("9: result(" + p + ")", x.result(p), 4);
        }
        due.is("9: mends(0)", x.mends(0), 0);
        due.is("9: again(5)", x.again(5), 3);
        due.is("9: letter(5, 0)", x.letter(5, 0), ASK);
    }

    private static void stepWhenRowIsFull() {
        PolledHouses x = withDeposit(0, 1, 0);
        x.damage(0, 0, 0, 1);
        x.poll(0, 0, 1L);
        steps(x, ASK, ASK, ASK, SUM, SUM);
        x.poll(0, 0, 2L);
        for (int i = 0; i < 7; i++) {
            x.again(2);
        }
        due.is("9: letters()", x.letters(), 24);
        due.is("9: letter(0, 0)", x.letter(0, 0), SUM);
        steps(x, SUM);
        due.is("9: letters(), one of three FETCH had room", x.letters(), 24);
        due.is("9: letter(23, 0)", x.letter(23, 0), FETCH);
        due.is("9: letter(23, 1)", x.letter(23, 1), 1);
        due.is("9: letter(23, 2)", x.letter(23, 2), 0);
        steps(x, ASK);
        due.is("9: letters(), SUM takes the room of its ASK", x.letters(), 24);
        due.is("9: letter(23, 0)", x.letter(23, 0), SUM);
    }

    private static void decideThreeDifferent() {
        // Block 0 differs threefold in byte 3 alone; block 8 could be mended and is not.
        PolledHouses x = withDeposit(0, 9, 0);
        x.damage(0, 0, 3, 1);
        x.damage(1, 0, 3, 128);
        x.damage(2, 0, 32, 1);
        runToDecision(x, 0, 0, 3);
        due.is("9: at(2, 0, 32)", x.at(2, 0, 32), 225);
        due.is("9: at(0, 0, 3)", x.at(0, 0, 3), 92);
        due.is("9: mends(2)", x.mends(2), 0);
        // The second block alone differs threefold.
        PolledHouses y = withDeposit(0, 9, 0);
        y.damage(1, 0, 35, 1);
        y.damage(2, 0, 34, 1);
        y.damage(0, 0, 0, 1);
        runToDecision(y, 0, 0, 3);
        due.is("9: at(0, 0, 0)", y.at(0, 0, 0), 1);
        due.is("22: disputes()", y.disputes(), 1);
    }

    private static void decideDifferentBeforeClosed() {
        PolledHouses x = withDeposit(0, 1, 0);
        x.damage(0, 0, 0, 1);
        x.damage(1, 0, 0, 2);
        x.poll(0, 0, 1L);
        stepToFetch(x);
        steps(x, FETCH, FETCH, FETCH, COPY, COPY);
        x.close(2);
        x.damage(0, 0, 0, 1);
        steps(x, COPY);
        due.is("9: result(1), different though closed and changed", x.result(1), 3);
    }

    private static void decideClosed() {
        for (int h = 0; h < 3; h++) {
            PolledHouses x = withDeposit(0, 1, 0);
            x.damage(0, 0, 0, 1);
            x.poll(0, 0, 1L);
            stepToFetch(x);
            steps(x, FETCH, FETCH, FETCH, COPY, COPY);
            x.close(h);
            steps(x, COPY);
            due.is("9: result(1), closed " + h, x.result(1), 4);
            due.is("9: at(0, 0, 0)", x.at(0, 0, 0), 1);
            due.is("9: mends(0)", x.mends(0), 0);
            due.is("19: done()", x.done(), 0);
            due.is("22: disputes()", x.disputes(), 0);
        }
    }

    private static void decideChanged() {
        int[] bytes = {0, 3, 32, 35};
        for (int h = 0; h < 3; h++) {
            for (int i : bytes) {
                PolledHouses x = withDeposit(0, 10, 0);
                x.damage(1, 0, 1, 1);
                x.poll(0, 0, 1L);
                stepToFetch(x);
                steps(x, FETCH, FETCH, FETCH, COPY, COPY);
                x.damage(h, 0, i, 64);
                steps(x, COPY);
                due.is("9: result(1), byte " + i + " of house " + h + " changed", x.result(1), 4);
                due.is("9: at(1, 0, 1)", x.at(1, 0, 1), 30);
            }
            PolledHouses y = withDeposit(0, 10, 0);
            y.damage(1, 0, 1, 1);
            y.poll(0, 0, 1L);
            stepToFetch(y);
            steps(y, FETCH, FETCH, FETCH, COPY, COPY);
            y.damage(h, 0, 4, 64);
            y.damage(h, 0, 36, 64);
            y.damage(h, 0, 0, 64);
            y.damage(h, 0, 0, 64);
            steps(y, COPY);
            due.is("9: result(1), another part of house " + h + " changed", y.result(1), 2);
        }
    }

    private static void decideMendsEachHouse() {
        for (int h = 0; h < 3; h++) {
            PolledHouses x = withDeposit(4, 12, 7);
            x.damage(h, 4, 12, 255);
            x.damage(h, 4, 15, 255);
            x.damage(h, 4, 46, 128);
            x.damage(h, 4, 16, 3);
            runToDecision(x, 4, 3, 2);
            for (int g = 0; g < 3; g++) {
                for (int i = 0; i < 48; i++) {
                    int want = (7 + 31 * i) % 256;
                    if (g == h && i == 16) {
                        want ^= 3;
                    }
                    due.is("9: at(" + g + ", 4, " + i + "), house " + h + " mended", x.at(g, 4, i), want);
                }
                due.is("21: mends(" + g + ")", x.mends(g), g == h ? 2 : 0);
            }
        }
    }

    private static void decideTwoBlocksInTwoHouses() {
        PolledHouses x = withDeposit(0, 16, 0);
        x.damage(0, 0, 28, 1);
        x.damage(2, 0, 60, 1);
        runToDecision(x, 0, 7, 2);
        due.is("9: at(0, 0, 28)", x.at(0, 0, 28), (31 * 28) % 256);
        due.is("9: at(2, 0, 60)", x.at(2, 0, 60), (31 * 60) % 256);
        due.is("21: mends(0)", x.mends(0), 1);
        due.is("21: mends(1)", x.mends(1), 0);
        due.is("21: mends(2)", x.mends(2), 1);
        // Two houses damaged alike outvote the third, which was whole.
        x.damage(0, 0, 0, 9);
        x.damage(1, 0, 0, 9);
        runToDecision(x, 0, 0, 2);
        due.is("9: at(2, 0, 0)", x.at(2, 0, 0), 9);
        due.is("21: mends(2)", x.mends(2), 2);
    }

    private static void decideNothingToMend() {
        PolledHouses x = withDeposit(0, 2, 0);
        x.damage(1, 0, 0, 1);
        x.poll(0, 0, 9L);
        stepToFetch(x);
        x.damage(1, 0, 0, 1);
        steps(x, FETCH, FETCH, FETCH, COPY, COPY, COPY);
        due.is("9: result(1), whole by itself", x.result(1), 2);
        due.is("21: mends(1)", x.mends(1), 0);
        due.is("19: done()", x.done(), 1);
    }

    // Promise 10
    private static void lose() {
        PolledHouses x = withDeposit(0, 1, 0);
        due.is("10: lose(0), none", x.lose(0), BAD);
        x.damage(0, 0, 0, 1);
        x.poll(0, 0, 1L);
        int[] none = {-1, 3, 24, LEAST, MOST};
        for (int k : none) {
            due.is("10: lose(" + k + ")", x.lose(k), BAD);
        }
        due.is("10: letters()", x.letters(), 3);
        due.is("10: lose(1)", x.lose(1), ASK);
        due.is("10: letters()", x.letters(), 2);
        due.is("10: letter(0, 2)", x.letter(0, 2), 0);
        due.is("10: letter(1, 2)", x.letter(1, 2), 2);
        due.is("10: letter(2, 2)", x.letter(2, 2), BAD);
        x.again(1);
        x.lose(0);
        x.lose(0);
        steps(x, ASK, ASK, ASK);
        x.twice(0);
        due.is("10: lose(3)", x.lose(3), SUM);
        steps(x, SUM, SUM, SUM);
        x.twice(2);
        due.is("10: lose(3)", x.lose(3), FETCH);
        steps(x, FETCH, FETCH, FETCH);
        x.twice(0);
        due.is("10: lose(3)", x.lose(3), COPY);
        due.is("10: lose(0)", x.lose(0), COPY);
        steps(x, COPY, COPY);
        due.is("10: result(1), house 0's copy was lost", x.result(1), 0);
        due.is("10: again(1)", x.again(1), 1);
    }

    // Promise 11
    private static void twice() {
        PolledHouses x = withDeposit(0, 1, 0);
        due.is("11: twice(0), none", x.twice(0), BAD);
        x.poll(0, 0, 1L);
        int[] none = {-1, 3, 24, LEAST, MOST};
        for (int k : none) {
            due.is("11: twice(" + k + ")", x.twice(k), BAD);
        }
        due.is("11: twice(1)", x.twice(1), 4);
        due.is("11: letter(3, 0)", x.letter(3, 0), ASK);
        due.is("11: letter(3, 1)", x.letter(3, 1), 1);
        due.is("11: letter(3, 2)", x.letter(3, 2), 1);
        due.is("11: letter(1, 2)", x.letter(1, 2), 1);
        for (int n = 5; n <= 24; n++) {
            due.is("11: twice(0)", x.twice(0), n);
        }
        due.is("11: twice(0), full", x.twice(0), FULL);
        due.is("11: twice(23), full", x.twice(23), FULL);
        due.is("11: twice(24), full", x.twice(24), BAD);
        due.is("11: twice(-1), full", x.twice(-1), BAD);
        due.is("11: letters()", x.letters(), 24);
        x.giveUp(1);
        x.lose(5);
        due.is("11: twice(1) of an ended poll", x.twice(1), 24);
    }

    /** The second letter has the sum and the bytes of the first, whatever the house has by then. */
    private static void twiceCarriesTheSame() {
        PolledHouses x = withDeposit(0, 1, 0);
        x.poll(0, 0, 1L);
        steps(x, ASK, ASK, ASK);
        x.damage(0, 0, 0, 1);
        x.twice(0);
        x.lose(0);
        steps(x, SUM, SUM, SUM);
        due.is("11: result(1)", x.result(1), 1);
        x.poll(0, 0, 1L);
        stepToFetch(x);
        steps(x, FETCH, FETCH, FETCH);
        x.damage(0, 0, 0, 6);
        x.twice(0);
        x.lose(0);
        x.damage(0, 0, 0, 6);
        steps(x, COPY, COPY, COPY);
        due.is("11: result(2)", x.result(2), 2);
        due.is("11: at(0, 0, 0)", x.at(0, 0, 0), 0);
    }

    // Promise 12
    private static void letters() {
        PolledHouses x = withDeposit(0, 8, 0);
        for (int part = 0; part < 6; part++) {
            due.is("12: letters()", x.letters(), 3 * part);
            x.poll(0, part, 1L);
        }
        due.is("12: letters()", x.letters(), 18);
        x.again(1);
        x.twice(0);
        due.is("12: letters()", x.letters(), 22);
        x.again(2);
        due.is("12: letters(), one was lost", x.letters(), 24);
        x.giveUp(1);
        due.is("12: letters(), those of an ended poll stay", x.letters(), 24);
        x.step();
        due.is("12: letters()", x.letters(), 23);
        x.lose(22);
        due.is("12: letters()", x.letters(), 22);
    }

    // Promise 13
    private static void letter() {
        PolledHouses x = withDeposit(0, 2, 0);
        due.is("13: letter(0, 0), none", x.letter(0, 0), BAD);
        x.damage(0, 0, 0, 1);
        x.poll(0, 1, 1L);
        x.giveUp(1);
        x.poll(0, 0, 1L);
        int[] none = {-1, 6, 24, LEAST, MOST};
        for (int k : none) {
            for (int what = 0; what < 3; what++) {
                due.is("13: letter(" + k + ", " + what + ")", x.letter(k, what), BAD);
            }
        }
        int[] noWhat = {-1, 3, LEAST, MOST};
        for (int what : noWhat) {
            due.is("13: letter(0, " + what + ")", x.letter(0, what), BAD);
        }
        due.is("13: letter(2, 1) of an ended poll", x.letter(2, 1), 1);
        due.is("13: letter(5, 1)", x.letter(5, 1), 2);
        due.is("13: letter(5, 2)", x.letter(5, 2), 2);
        steps(x, ASK, ASK, ASK, ASK, ASK, ASK);
        for (int kind = SUM; kind <= COPY; kind++) {
            for (int h = 0; h < 3; h++) {
                due.is("13: letter(" + h + ", 0)", x.letter(h, 0), kind);
                due.is("13: letter(" + h + ", 1)", x.letter(h, 1), 2);
                due.is("13: letter(" + h + ", 2)", x.letter(h, 2), h);
            }
            steps(x, kind, kind, kind);
        }
        due.is("13: letter(0, 0), none", x.letter(0, 0), BAD);
    }

    // Promise 14
    private static void giveUp() {
        PolledHouses x = withDeposit(0, 2, 0);
        due.is("14: giveUp(0)", x.giveUp(0), false);
        due.is("14: giveUp(1)", x.giveUp(1), false);
        x.poll(0, 0, 1L);
        int[] noPoll = {0, -1, 2, LEAST, MOST};
        for (int p : noPoll) {
            due.is("14: giveUp(" + p + ")", x.giveUp(p), false);
        }
        due.is("14: result(1)", x.result(1), 0);
        due.is("14: giveUp(1)", x.giveUp(1), true);
        due.is("14: result(1)", x.result(1), 4);
        due.is("14: giveUp(1) once more", x.giveUp(1), false);
        steps(x, ASK, ASK, ASK);
        runAgreed(x, 0, 0);
        due.is("14: giveUp(2), agreed", x.giveUp(2), false);
        due.is("14: result(2)", x.result(2), 1);
        due.is("14: done()", x.done(), 1);
        due.is("14: disputes()", x.disputes(), 0);
    }

    // Promise 15
    private static void result() {
        PolledHouses x = withDeposit(0, 3, 0);
        x.damage(1, 0, 0, 1);
        x.damage(1, 0, 4, 1);
        x.damage(2, 0, 4, 2);
        runToDecision(x, 0, 0, 2);
        runToDecision(x, 0, 1, 3);
        runAgreed(x, 0, 2);
        x.poll(0, 0, 1L);
        x.poll(0, 0, 1L);
        x.giveUp(4);
        int[] want = {2, 3, 1, 4, 0};
        for (int p = 1; p <= 5; p++) {
            due.is("15: result(" + p + ")", x.result(p), want[p - 1]);
        }
        int[] noPoll = {0, -1, 6, LEAST, MOST};
        for (int p : noPoll) {
            due.is("15: result(" + p + ")", x.result(p), BAD);
        }
        // As many polls as calls allow, each answer kept.
        PolledHouses y = withDeposit(0, 1, 0);
        for (int p = 1; p <= 250; p++) {
            due.is("15: poll(0, 0, 1)", y.poll(0, 0, 1L), p);
            due.is("15: giveUp(" + p + ")", y.giveUp(p), true);
        }
        due.is("15: poll(0, 0, 1)", y.poll(0, 0, 1L), 251);
        due.is("15: result(1)", y.result(1), 4);
        due.is("15: result(250)", y.result(250), 4);
        due.is("15: result(251)", y.result(251), 0);
    }

    // Promise 16
    private static void close() {
        int[] none = {-1, 3, LEAST, MOST};
        PolledHouses x = new PolledHouses();
        for (int h : none) {
            due.is("16: close(" + h + ")", x.close(h), false);
        }
        due.is("16: deposit(0, 1, 0)", x.deposit(0, 1, 0), 4);
        for (int h = 0; h < 3; h++) {
            due.is("16: close(" + h + ")", x.close(h), true);
            due.is("16: close(" + h + ") once more", x.close(h), false);
        }
        due.is("16: deposit(1, 1, 0)", x.deposit(1, 1, 0), NO);
        x.poll(0, 0, 1L);
        steps(x, ASK, ASK, ASK, 0);
        due.is("16: result(1)", x.result(1), 0);
    }

    // Promise 17
    private static void open() {
        int[] none = {-1, 3, LEAST, MOST};
        PolledHouses x = withDeposit(0, 1, 0);
        for (int h : none) {
            due.is("17: open(" + h + ")", x.open(h), false);
        }
        for (int h = 0; h < 3; h++) {
            due.is("17: open(" + h + "), open", x.open(h), false);
            x.close(h);
        }
        for (int h = 2; h >= 0; h--) {
            due.is("17: deposit(1, 1, 0)", x.deposit(1, 1, 0), NO);
            due.is("17: open(" + h + ")", x.open(h), true);
            due.is("17: open(" + h + ") once more", x.open(h), false);
        }
        due.is("17: deposit(1, 1, 0)", x.deposit(1, 1, 0), 4);
        runAgreed(x, 0, 0);
        due.is("17: close(1)", x.close(1), true);
    }

    // Promise 18
    private static void round() {
        PolledHouses x = new PolledHouses();
        due.is("18: round()", x.round(), 1);
        x.deposit(0, 2, 0);
        x.deposit(3, 1, 0);
        for (int n = 1; n <= 3; n++) {
            runAgreed(x, 0, 0);
            runAgreed(x, 0, 0);
            runAgreed(x, 3, 0);
            due.is("18: round(), one part is missing", x.round(), n);
            due.is("18: done()", x.done(), 2);
            x.damage(n - 1, 0, 4, 1);
            runToDecision(x, 0, 1, 2);
            due.is("18: round(), all are done", x.round(), n + 1);
            due.is("18: done()", x.done(), 0);
        }
        x.damage(0, 0, 0, 1);
        x.damage(1, 0, 0, 2);
        runAgreed(x, 0, 1);
        runAgreed(x, 3, 0);
        runToDecision(x, 0, 0, 3);
        int number = x.poll(0, 0, 1L);
        x.giveUp(number);
        due.is("18: round(), different and given up", x.round(), 4);
        due.is("18: done()", x.done(), 2);
    }

    private static void roundOfOldPoll() {
        PolledHouses x = withDeposit(0, 1, 0);
        x.poll(0, 0, 1L);
        x.poll(0, 0, 1L);
        steps(x, ASK, ASK, ASK, ASK, ASK, ASK, SUM, SUM, SUM);
        due.is("18: round()", x.round(), 2);
        due.is("18: done()", x.done(), 0);
        steps(x, SUM, SUM, SUM);
        due.is("18: result(2), started in the round before", x.result(2), 1);
        due.is("18: round()", x.round(), 2);
        due.is("18: done()", x.done(), 0);
        runAgreed(x, 0, 0);
        due.is("18: round()", x.round(), 3);
    }

    private static void roundAndNewDeposit() {
        PolledHouses x = withDeposit(0, 1, 0);
        x.poll(0, 0, 1L);
        x.deposit(1, 1, 0);
        steps(x, ASK, ASK, ASK, SUM, SUM, SUM);
        due.is("18: round(), a deposit came", x.round(), 1);
        due.is("18: done()", x.done(), 1);
        due.is("18: parts()", x.parts(), 2);
        runAgreed(x, 1, 0);
        due.is("18: round()", x.round(), 2);
    }

    // Promise 19
    private static void done() {
        PolledHouses x = withDeposit(0, 16, 0);
        for (int part = 7; part > 0; part--) {
            runAgreed(x, 0, part);
            due.is("19: done()", x.done(), 8 - part);
            runAgreed(x, 0, part);
            due.is("19: done(), the same part again", x.done(), 8 - part);
        }
        due.is("19: round()", x.round(), 1);
        runAgreed(x, 0, 0);
        due.is("19: done()", x.done(), 0);
        due.is("19: round()", x.round(), 2);
        runAgreed(x, 0, 3);
        due.is("19: done()", x.done(), 1);
    }

    // Promise 20
    private static void parts() {
        int[] blocks = {1, 7, 8, 9, 16, 2};
        int[] want = {1, 8, 16, 24, 32, 34};
        PolledHouses x = new PolledHouses();
        for (int d = 0; d < 6; d++) {
            x.deposit(d, blocks[d], 0);
            due.is("20: parts()", x.parts(), want[d]);
        }
        x.deposit(0, 16, 0);
        due.is("20: parts(), deposit(0, ..) was there", x.parts(), 34);
    }

    // Promise 21
    private static void mends() {
        PolledHouses x = withDeposit(0, 16, 0);
        int[] none = {-1, 3, LEAST, MOST};
        for (int h : none) {
            due.is("21: mends(" + h + ")", x.mends(h), BAD);
        }
        int want = 0;
        for (int part = 0; part < 4; part++) {
            x.damage(1, 0, 4 * part, 1);
            x.damage(1, 0, 4 * part + 1, 1);
            runToDecision(x, 0, part, 2);
            want++;
            due.is("21: mends(1)", x.mends(1), want);
        }
        due.is("21: mends(0)", x.mends(0), 0);
        due.is("21: mends(2)", x.mends(2), 0);
    }

    // Promise 22
    private static void disputes() {
        PolledHouses x = withDeposit(0, 1, 0);
        x.damage(0, 0, 0, 1);
        x.damage(1, 0, 0, 2);
        for (int n = 1; n <= 3; n++) {
            runToDecision(x, 0, 0, 3);
            due.is("22: disputes()", x.disputes(), n);
        }
        x.damage(0, 0, 0, 1);
        runToDecision(x, 0, 0, 2);
        x.poll(0, 0, 1L);
        x.giveUp(5);
        due.is("22: disputes()", x.disputes(), 3);
    }
}
