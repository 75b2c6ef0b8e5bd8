import java.math.BigInteger;

/** The edges that the document's opening and its Terms name, each under the words that name it. */
public final class TermsEdgesTest {
    private static final int BAD = Sentences.BAD;
    private static final int NO = Sentences.NO;
    private static final int FULL = Sentences.FULL;
    private static final int ASK = Sentences.ASK;
    private static final int SUM = Sentences.SUM;
    private static final int FETCH = Sentences.FETCH;
    private static final int COPY = Sentences.COPY;
    private static final int AGREED = Sentences.AGREED;
    private static final int MENDED = Sentences.MENDED;
    private static final int DIFFERENT = Sentences.DIFFERENT;
    private static final int GIVEN_UP = Sentences.GIVEN_UP;
    private static final int ROW = Sentences.ROW;

    private static final Sentences s = new Sentences();

    public static void main(String[] args) {
        things();
        sums();
        polls();
        fullRow();
        sumLetters();
        copyLetters();
        decisions();
        lettersWithoutEffect();
        rounds();
        s.end();
    }

    private static void things() {
        s.holds("An object is used for at most 512 calls after it has been made", TermsEdgesTest::lastCalls);
        s.holds("HOUSES are 0, 1, 2", TermsEdgesTest::houses);
        s.holds("each OPEN (at first) or not", TermsEdgesTest::openAtFirst);
        s.holds("DEPOSITS are 0 .. 5, each there or not", TermsEdgesTest::deposits);
        s.holds("with a number of BLOCKS, 1 .. 16", TermsEdgesTest::blockNumbers);
        s.holds("a block has 4 bytes. Byte i of a deposit is byte i % 4 of its block i / 4",
            TermsEdgesTest::bytePlaces);
        s.holds("Each house has a copy of all bytes", TermsEdgesTest::copiesOfTheirOwn);
        s.holds("PART p, 0 .. 7, of a deposit is its blocks p and p + 8", TermsEdgesTest::partsOfAllSizes);
        s.holds("as far as there are such", TermsEdgesTest::partsThatLackBlocks);
    }

    private static void sums() {
        s.holds("s is the nonce", TermsEdgesTest::extremeNonces);
        s.holds("its 4 bytes (0 .. 255, in their order)", TermsEdgesTest::bytesAboveHalf);
        s.holds("times 1099511628211 (wrapping)", TermsEdgesTest::wrappingSums);
    }

    private static void polls() {
        s.holds("polls are numbered 1, 2, ..", TermsEdgesTest::pollNumbers);
        s.holds("Its RESULT: 0 open, 1 agreed, 2 mended, 3 three different ones, 4 given up", TermsEdgesTest::results);
        s.holds("At most 6 polls are open at a time", TermsEdgesTest::sixOpen);
    }

    private static void fullRow() {
        s.holds("LETTERS are under way in a row, at most 24", TermsEdgesTest::atMost24);
        s.holds("one that comes to it when it has 24 is lost (ASK of a new poll)", TermsEdgesTest::fullForPoll);
        s.holds("one that comes to it when it has 24 is lost (ASK sent again)", TermsEdgesTest::fullForAsks);
        s.holds("one that comes to it when it has 24 is lost (FETCH)", TermsEdgesTest::fullForFetch);
        s.holds("one that comes to it when it has 24 is lost (FETCH sent again)", TermsEdgesTest::fullForFetchAgain);
        s.holds("one that comes to it when it has 24 is lost (not SUM and COPY, whose cause has left)",
            TermsEdgesTest::fullForAnswers);
    }

    private static void sumLetters() {
        s.holds("ASK to a house: if it is open", TermsEdgesTest::askOpen);
        s.holds("the letter SUM with its sum at that time", TermsEdgesTest::sumAtThatTime);
        s.holds("the letter SUM .. comes to the row (also if the poll has one)", TermsEdgesTest::askedTwice);
        s.holds("SUM: if the poll .. has no sum of this house yet", TermsEdgesTest::secondSum);
        s.holds("SUM: .. it has this one (a sum that is 0, BAD, NO or an extreme)", TermsEdgesTest::sumsOfAnyValue);
        s.holds("When it has all three (sums, and not before)", TermsEdgesTest::twoSums);
        s.holds("if they are alike, it is agreed", TermsEdgesTest::alikeSums);
        s.holds("else the letters FETCH to house 0, 1 and 2 come to the row", TermsEdgesTest::differentSums);
    }

    private static void copyLetters() {
        s.holds("FETCH to a house: if it is open", TermsEdgesTest::fetchOpen);
        s.holds("the letter COPY with the bytes of its part at that time", TermsEdgesTest::copyAtThatTime);
        s.holds("the letter COPY .. comes to the row (also if the poll has one)", TermsEdgesTest::fetchedTwice);
        s.holds("COPY: if the poll is open, .. and no copy of this house yet", TermsEdgesTest::secondCopy);
        s.holds("COPY: .. it has this one (bytes that are all 0 or all 255)", TermsEdgesTest::copiesOfAnyValue);
        s.holds("When it has all three, it is DECIDED", TermsEdgesTest::twoCopies);
    }

    private static void decisions() {
        s.holds("if in some block all three copies differ, the result is 3", TermsEdgesTest::threeDiffer);
        s.holds("in some block (and not over two blocks together)", TermsEdgesTest::differOverTwoBlocks);
        s.holds("Else, if a house is closed .. it is given up", TermsEdgesTest::closedHouse);
        s.holds("Else (what is different stays 3, closed or changed)", TermsEdgesTest::differentComesFirst);
        s.holds("or the bytes of the part in some house are not those of its copy any more",
            TermsEdgesTest::changedBytes);
        s.holds("not those of its copy any more (mended by another poll)", TermsEdgesTest::mendedMeanwhile);
        s.holds("it is given up (and nothing is mended)", TermsEdgesTest::givenUpMendsNothing);
        s.holds("becomes, in that house, what the others have", TermsEdgesTest::mendsBothBlocks);
        s.holds("the result is 2 (also if there was none such)", TermsEdgesTest::noneToMend);
    }

    private static void lettersWithoutEffect() {
        s.holds("ASK and FETCH that come to a closed house .. have no effect", TermsEdgesTest::lettersToClosed);
        s.holds("letters of a poll that is not open, have no effect", TermsEdgesTest::lettersOfEnded);
        s.holds("ASK and FETCH of a poll that is not open neither", TermsEdgesTest::askAndFetchOfEnded);
    }

    private static void rounds() {
        s.holds("A ROUND (number 1 at first)", TermsEdgesTest::firstRound);
        s.holds("for each part of each deposit that is there and has a block in it", TermsEdgesTest::partsOfTheRound);
        s.holds("a poll of it that was started in this round", TermsEdgesTest::pollOfEarlierRound);
        s.holds("has the result 1 or 2", TermsEdgesTest::resultsThatCount);
        s.holds("When all are done", TermsEdgesTest::allDone);
        s.holds("(and there is one at least)", TermsEdgesTest::oneAtLeast);
        s.holds("a new round begins, its number one more, in which none is done", TermsEdgesTest::newRound);
        s.holds("A deposit that comes belongs to the round at once", TermsEdgesTest::depositInTheRound);
    }

    private static void lastCalls() {
        PolledHouses x = new PolledHouses();
        s.is("call 1, deposit(0, 1, 0)", x.deposit(0, 1, 0), 4);
        for (int p = 1; p <= 255; p++) {
            s.is("call " + 2 * p + ", poll(0, 0, 1)", x.poll(0, 0, 1L), p);
            s.is("call " + (2 * p + 1) + ", giveUp(" + p + ")", x.giveUp(p), true);
        }
        s.is("call 512, poll(0, 0, 1)", x.poll(0, 0, 1L), 256);
        PolledHouses y = new PolledHouses();
        y.deposit(0, 1, 0);
        for (int n = 0; n < 63; n++) {
            s.agree(y, 0, 0);
        }
        s.is("round() after 63 polls of 8 calls", y.round(), 64);
        s.is("poll(0, 0, 1)", y.poll(0, 0, 1L), 64);
        s.is("result(1)", y.result(1), AGREED);
        s.is("result(63)", y.result(63), AGREED);
    }

    private static void houses() {
        for (int h = 0; h < 3; h++) {
            PolledHouses x = s.with(0, 1, 9);
            s.is("at(" + h + ", 0, 0)", x.at(h, 0, 0), 9);
            s.is("damage(" + h + ", 0, 0, 1)", x.damage(h, 0, 0, 1), 8);
            s.is("sum(" + h + ", 0, 0, 3)", x.sum(h, 0, 0, 3L), Sentences.sumOf(3L, 0, 0, 8, 40, 71, 102));
            s.is("mends(" + h + ")", x.mends(h), 0);
            s.is("close(" + h + ")", x.close(h), true);
            s.is("open(" + h + ")", x.open(h), true);
        }
        PolledHouses x = s.with(0, 1, 9);
        String before = Sentences.state(x);
        for (int h : Sentences.NO_HOUSE) {
            s.is("at(" + h + ", 0, 0)", x.at(h, 0, 0), BAD);
            s.is("damage(" + h + ", 0, 0, 1)", x.damage(h, 0, 0, 1), BAD);
            s.is("sum(" + h + ", 0, 0, 3)", x.sum(h, 0, 0, 3L), 0);
            s.is("mends(" + h + ")", x.mends(h), BAD);
            s.is("close(" + h + ")", x.close(h), false);
            s.is("open(" + h + ")", x.open(h), false);
        }
        s.unchanged(before, x);
    }

    private static void openAtFirst() {
        PolledHouses x = s.with(0, 1, 0);
        for (int h = 0; h < 3; h++) {
            s.isOpen(x, h);
        }
        x.poll(0, 0, 1L);
        s.steps(x, ASK, ASK, ASK);
        s.is("letters(), each house has answered", x.letters(), 3);
    }

    private static void deposits() {
        PolledHouses x = new PolledHouses();
        for (int d : Sentences.NO_DEPOSIT) {
            s.is("deposit(" + d + ", 1, 0)", x.deposit(d, 1, 0), BAD);
        }
        for (int d = 0; d < 6; d++) {
            s.is("blocks(" + d + "), not there", x.blocks(d), 0);
            s.is("deposit(" + d + ", " + (d + 1) + ", 0)", x.deposit(d, d + 1, 0), 4 * (d + 1));
        }
        for (int d = 0; d < 6; d++) {
            s.is("blocks(" + d + ")", x.blocks(d), d + 1);
        }
        for (int d : Sentences.NO_DEPOSIT) {
            s.is("deposit(" + d + ", 1, 0), all are there", x.deposit(d, 1, 0), BAD);
            s.is("blocks(" + d + ")", x.blocks(d), 0);
        }
    }

    private static void blockNumbers() {
        for (int blocks = 1; blocks <= 16; blocks++) {
            PolledHouses x = s.with(3, blocks, 1);
            s.is("blocks(3)", x.blocks(3), blocks);
            s.is("at(2, 3, last)", x.at(2, 3, 4 * blocks - 1), (1 + 31 * (4 * blocks - 1)) % 256);
            s.is("at(2, 3, last + 1)", x.at(2, 3, 4 * blocks), BAD);
        }
        PolledHouses x = new PolledHouses();
        for (int blocks : new int[] {0, 17, -1, Sentences.LEAST, Sentences.MOST}) {
            s.is("deposit(3, " + blocks + ", 1)", x.deposit(3, blocks, 1), BAD);
            s.is("blocks(3)", x.blocks(3), 0);
        }
    }

    private static int firstByte(int fill, int i) {
        return Math.floorMod(fill + 31 * i, 256);
    }

    /** The sum of a part, with one byte of it damaged by a mask (or none, when there is no such byte). */
    private static long dueSum(int d, int blocks, int fill, int part, long nonce, int damaged, int mask) {
        long sum = nonce;
        for (int block = part; block < blocks; block += 8) {
            sum = Sentences.sumOf(sum, d, block);
            for (int i = 4 * block; i < 4 * block + 4; i++) {
                sum = Sentences.sumOf(sum, firstByte(fill, i) ^ (i == damaged ? mask : 0));
            }
        }
        return sum;
    }

    private static void bytePlaces() {
        for (int i : new int[] {0, 1, 2, 3, 4, 7, 8, 28, 31, 32, 35, 36, 60, 63}) {
            PolledHouses x = s.with(2, 16, 50);
            s.is("damage(1, 2, " + i + ", 129)", x.damage(1, 2, i, 129), firstByte(50, i) ^ 129);
            for (int part = 0; part < 8; part++) {
                s.is("sum(1, 2, " + part + ", 8), byte " + i, x.sum(1, 2, part, 8L),
                    dueSum(2, 16, 50, part, 8L, i, 129));
            }
            for (int n = 0; n < 64; n++) {
                s.is("at(1, 2, " + n + ")", x.at(1, 2, n), firstByte(50, n) ^ (n == i ? 129 : 0));
            }
        }
    }

    private static void copiesOfTheirOwn() {
        for (int h = 0; h < 3; h++) {
            for (int i : new int[] {0, 63}) {
                PolledHouses x = s.with(5, 16, 0);
                x.damage(h, 5, i, 255);
                for (int g = 0; g < 3; g++) {
                    s.is("at(" + g + ", 5, " + i + ")", x.at(g, 5, i), firstByte(0, i) ^ (g == h ? 255 : 0));
                }
            }
        }
    }

    private static void partsOfAllSizes() {
        for (int blocks = 1; blocks <= 16; blocks++) {
            PolledHouses x = s.with(4, blocks, 200);
            for (int part = 0; part < 8; part++) {
                s.is("sum(0, 4, " + part + ", 6) of " + blocks + " blocks", x.sum(0, 4, part, 6L),
                    dueSum(4, blocks, 200, part, 6L, -1, 0));
            }
            for (int part : Sentences.NO_PART) {
                s.is("sum(0, 4, " + part + ", 6)", x.sum(0, 4, part, 6L), 0);
                s.is("poll(4, " + part + ", 6)", x.poll(4, part, 6L), BAD);
            }
        }
    }

    /** Blocks that a part lacks: no sum of them, no poll without any, none mended. */
    private static void partsThatLackBlocks() {
        PolledHouses x = s.with(0, 7, 0);
        s.is("sum(2, 0, 7, 44), no block", x.sum(2, 0, 7, 44L), 44L);
        s.is("poll(0, 7, 44), no block", x.poll(0, 7, 44L), NO);
        s.is("poll(0, 6, 44), the last block", x.poll(0, 6, 44L), 1);
        PolledHouses y = s.with(0, 8, 0);
        s.is("poll(0, 7, 44), the last block", y.poll(0, 7, 44L), 1);
        // Of 15 blocks, part 7 has block 7 alone; the bytes of the next deposit are none of it.
        PolledHouses z = s.with(0, 15, 0);
        z.deposit(1, 1, 0);
        z.damage(0, 0, 28, 1);
        z.damage(1, 1, 0, 1);
        z.damage(2, 1, 0, 2);
        s.decide(z, 0, 7, MENDED);
        s.is("mends(0)", z.mends(0), 1);
        s.is("mends(1)", z.mends(1), 0);
        s.is("at(1, 1, 0)", z.at(1, 1, 0), 1);
    }

    private static void extremeNonces() {
        PolledHouses x = s.with(5, 16, 77);
        PolledHouses y = s.with(5, 1, 77);
        for (long nonce : new long[] {0L, 1L, -1L, Long.MIN_VALUE, Long.MAX_VALUE, 1L << 31, 1L << 32, -1L << 32}) {
            s.is("sum(0, 5, 7, " + nonce + ")", x.sum(0, 5, 7, nonce), dueSum(5, 16, 77, 7, nonce, -1, 0));
            s.is("sum(0, 5, 7, " + nonce + "), no block", y.sum(0, 5, 7, nonce), nonce);
        }
    }

    private static void bytesAboveHalf() {
        for (int value : new int[] {0, 1, 127, 128, 254, 255}) {
            PolledHouses x = new PolledHouses();
            x.deposit(1, 1, 0);
            int[] want = {value, value ^ 1, value ^ 2, value ^ 3};
            for (int i = 0; i < 4; i++) {
                s.is("damage to " + want[i], x.damage(0, 1, i, firstByte(0, i) ^ want[i]), want[i]);
            }
            s.is("sum(0, 1, 0, 2)", x.sum(0, 1, 0, 2L), Sentences.sumOf(2L, 1, 0, want[0], want[1], want[2], want[3]));
        }
    }

    /** Counted without wrapping, in numbers that have no end, and cut to 64 bits at the last. */
    private static void wrappingSums() {
        PolledHouses x = s.with(3, 12, 130);
        BigInteger factor = new BigInteger("1099511628211");
        BigInteger mask = BigInteger.ONE.shiftLeft(64).subtract(BigInteger.ONE);
        for (long nonce : new long[] {0L, 5L, -5L, Long.MIN_VALUE, Long.MAX_VALUE}) {
            BigInteger sum = BigInteger.valueOf(nonce).and(mask);
            for (int block : new int[] {3, 11}) {
                int[] numbers = {3, block, firstByte(130, 4 * block), firstByte(130, 4 * block + 1),
                    firstByte(130, 4 * block + 2), firstByte(130, 4 * block + 3)};
                for (int n : numbers) {
                    sum = sum.xor(BigInteger.valueOf(n)).multiply(factor).and(mask);
                }
            }
            s.is("sum(1, 3, 3, " + nonce + ")", x.sum(1, 3, 3, nonce), sum.longValue());
        }
    }

    private static void pollNumbers() {
        PolledHouses x = s.with(0, 1, 0);
        s.is("poll(6, 0, 1)", x.poll(6, 0, 1L), BAD);
        s.is("poll(1, 0, 1)", x.poll(1, 0, 1L), NO);
        s.is("poll(0, 1, 1)", x.poll(0, 1, 1L), NO);
        for (int p = 1; p <= 6; p++) {
            s.is("poll(0, 0, 1), refused ones took no number", x.poll(0, 0, 1L), p);
        }
        s.is("poll(0, 0, 1), 6 open", x.poll(0, 0, 1L), FULL);
        x.giveUp(2);
        s.is("poll(0, 0, 1), no number comes twice", x.poll(0, 0, 1L), 7);
        s.is("result(2)", x.result(2), GIVEN_UP);
        s.is("result(7)", x.result(7), 0);
    }

    private static void results() {
        for (int result = AGREED; result <= GIVEN_UP; result++) {
            PolledHouses x = s.before(result);
            x.poll(0, 0, 1L);
            s.is("result(1), open", x.result(1), 0);
            s.is("result(1)", s.ended(result).result(1), result);
        }
        PolledHouses x = s.before(AGREED);
        x.poll(0, 0, 1L);
        x.giveUp(1);
        s.is("result(1)", x.result(1), GIVEN_UP);
    }

    /** However a poll ends, it makes room for one more, and for one alone. */
    private static void sixOpen() {
        for (int result = AGREED; result <= GIVEN_UP; result++) {
            PolledHouses x = s.before(result);
            int first = x.poll(0, 0, 1L);
            s.steps(x, ASK, ASK, ASK, SUM, SUM);
            if (result != AGREED) {
                s.steps(x, SUM, FETCH, FETCH, FETCH, COPY, COPY);
            }
            for (int p = 2; p <= 6; p++) {
                s.is("poll(0, 0, 1)", x.poll(0, 0, 1L), p);
            }
            s.is("poll(0, 0, 1), 6 open", x.poll(0, 0, 1L), FULL);
            if (result == GIVEN_UP) {
                x.close(0);
            }
            s.steps(x, result == AGREED ? SUM : COPY);
            s.is("result(1)", x.result(first), result);
            s.is("poll(0, 0, 1), 5 open", x.poll(0, 0, 1L), 7);
            s.is("poll(0, 0, 1), 6 open again", x.poll(0, 0, 1L), FULL);
            x.giveUp(4);
            s.is("poll(0, 0, 1), one was given up", x.poll(0, 0, 1L), 8);
            s.is("poll(0, 0, 1), 6 open again", x.poll(0, 0, 1L), FULL);
        }
    }

    private static void atMost24() {
        PolledHouses x = s.with(0, 1, 0);
        x.poll(0, 0, 1L);
        s.crowd(x, ROW);
        s.is("letters()", x.letters(), ROW);
        s.is("twice(0)", x.twice(0), FULL);
        s.is("again(1)", x.again(1), 3);
        s.is("poll(0, 0, 1)", x.poll(0, 0, 1L), 2);
        s.is("letters()", x.letters(), ROW);
        s.is("letter(24, 0)", x.letter(ROW, 0), BAD);
        s.is("lose(24)", x.lose(ROW), BAD);
        // All 24 are there indeed, and no more of those that were lost.
        for (int n = ROW; n > 0; n--) {
            s.is("lose(0)", x.lose(0), ASK);
        }
        s.is("step()", x.step(), 0);
    }

    /** The first of three letters, for houses 0, 1, 2, have come as far as there was room. */
    private static void cameInto(PolledHouses x, int room, int kind, int poll) {
        s.is("letters() with room for " + room, x.letters(), ROW);
        for (int h = 0; h < room; h++) {
            s.letterIs(x, ROW - room + h, kind, poll, h);
        }
        int last = ROW - room - 1;
        s.is("letter(" + last + ", 1) was there before", x.letter(last, 1), 1);
        s.is("lose(0)", x.lose(0) != BAD, true);
        s.is("letters(), what was lost does not come later", x.letters(), ROW - 1);
    }

    private static void fullForPoll() {
        for (int room = 0; room <= 3; room++) {
            PolledHouses x = s.with(0, 2, 0);
            x.poll(0, 0, 1L);
            s.crowd(x, ROW - room);
            s.is("poll(0, 1, 1) with room for " + room, x.poll(0, 1, 1L), 2);
            s.is("result(2)", x.result(2), 0);
            cameInto(x, room, ASK, 2);
        }
    }

    private static void fullForAsks() {
        for (int room = 0; room <= 3; room++) {
            PolledHouses x = s.with(0, 2, 0);
            x.poll(0, 0, 1L);
            x.poll(0, 1, 1L);
            for (int k = 0; k < 3; k++) {
                x.lose(3);
            }
            s.crowd(x, ROW - room);
            s.is("again(2) with room for " + room, x.again(2), 3);
            cameInto(x, room, ASK, 2);
        }
    }

    private static void fullForFetch() {
        for (int room = 1; room <= 3; room++) {
            PolledHouses x = s.before(MENDED);
            x.poll(0, 0, 1L);
            s.steps(x, ASK, ASK, ASK, SUM, SUM);
            s.crowd(x, ROW + 1 - room);
            s.steps(x, SUM);
            cameInto(x, room, FETCH, 1);
            s.is("again(1), all copies are awaited", x.again(1), 3);
            s.letterIs(x, ROW - 1, FETCH, 1, 0);
        }
    }

    private static void fullForFetchAgain() {
        for (int room = 0; room <= 3; room++) {
            PolledHouses x = s.before(MENDED);
            s.toFetch(x, 0, 0);
            s.crowd(x, ROW - room);
            s.is("again(1) with room for " + room, x.again(1), 3);
            cameInto(x, room, FETCH, 1);
        }
    }

    private static void fullForAnswers() {
        PolledHouses x = s.before(MENDED);
        x.poll(0, 0, 1L);
        s.crowd(x, ROW);
        s.steps(x, ASK);
        s.is("letters()", x.letters(), ROW);
        s.letterIs(x, ROW - 1, SUM, 1, 0);
        PolledHouses y = s.before(MENDED);
        s.toFetch(y, 0, 0);
        s.crowd(y, ROW);
        s.steps(y, FETCH);
        s.is("letters()", y.letters(), ROW);
        s.letterIs(y, ROW - 1, COPY, 1, 0);
    }

    private static void askOpen() {
        for (int h = 0; h < 3; h++) {
            PolledHouses x = s.with(0, 1, 0);
            x.close(h);
            x.poll(0, 0, 1L);
            s.is("letters(), ASK goes to a closed house too", x.letters(), 3);
            s.steps(x, ASK, ASK, ASK);
            s.is("letters(), house " + h + " is closed", x.letters(), 2);
            s.letterIs(x, 0, SUM, 1, h == 0 ? 1 : 0);
            s.letterIs(x, 1, SUM, 1, h == 2 ? 1 : 2);
            s.steps(x, SUM, SUM);
            s.is("again(1)", x.again(1), 1);
            // Open when the letter arrives: it was closed when it was sent.
            x.open(h);
            s.steps(x, ASK);
            s.letterIs(x, 0, SUM, 1, h);
            // Closed when SUM arrives: that changes nothing.
            x.close(h);
            s.steps(x, SUM);
            s.is("result(1)", x.result(1), AGREED);
        }
    }

    private static void sumAtThatTime() {
        // Damaged after the poll began and before ASK arrives: the sum is of the damaged bytes.
        PolledHouses x = s.with(0, 1, 0);
        x.poll(0, 0, 1L);
        x.damage(0, 0, 0, 1);
        s.steps(x, ASK, ASK, ASK);
        x.damage(0, 0, 0, 1);
        s.steps(x, SUM, SUM, SUM);
        s.is("result(1), damaged when asked", x.result(1), 0);
        s.letterIs(x, 0, FETCH, 1, 0);
        // Damaged after ASK arrived: the sum is of the bytes that were whole.
        PolledHouses y = s.with(0, 1, 0);
        y.poll(0, 0, 1L);
        s.steps(y, ASK, ASK, ASK);
        y.damage(0, 0, 0, 1);
        s.steps(y, SUM, SUM, SUM);
        s.is("result(1), whole when asked", y.result(1), AGREED);
    }

    private static void askedTwice() {
        for (int h = 0; h < 3; h++) {
            PolledHouses x = s.before(MENDED);
            x.poll(0, 0, 1L);
            s.toTheFront(x, ASK, h);
            x.twice(0);
            s.steps(x, ASK);
            s.toTheFront(x, SUM, h);
            s.steps(x, SUM);
            s.toTheFront(x, ASK, h);
            s.steps(x, ASK);
            s.is("letters()", x.letters(), 3);
            s.letterIs(x, 2, SUM, 1, h);
        }
        // With all three sums, too: an ASK that comes late is answered as long as the poll is open.
        PolledHouses y = s.before(MENDED);
        y.poll(0, 0, 1L);
        y.twice(0);
        s.steps(y, ASK, ASK, ASK);
        s.toTheBack(y, 1);
        s.steps(y, SUM, SUM, SUM, ASK);
        s.is("letters()", y.letters(), 4);
        s.letterIs(y, 3, SUM, 1, 0);
    }

    private static void fetchedTwice() {
        for (int h = 0; h < 3; h++) {
            PolledHouses x = s.before(MENDED);
            s.toFetch(x, 0, 0);
            s.toTheFront(x, FETCH, h);
            x.twice(0);
            s.steps(x, FETCH);
            s.toTheFront(x, COPY, h);
            s.steps(x, COPY);
            s.toTheFront(x, FETCH, h);
            s.steps(x, FETCH);
            s.is("letters()", x.letters(), 3);
            s.letterIs(x, 2, COPY, 1, h);
        }
    }

    private static void secondSum() {
        for (int h = 0; h < 3; h++) {
            for (boolean firstIsDamaged : new boolean[] {true, false}) {
                PolledHouses x = s.with(0, 1, 0);
                x.poll(0, 0, 1L);
                s.toTheFront(x, ASK, h);
                x.twice(0);
                x.damage(h, 0, 0, firstIsDamaged ? 1 : 0);
                s.steps(x, ASK);
                x.damage(h, 0, 0, 1);
                s.toTheFront(x, ASK, h);
                s.steps(x, ASK);
                for (int n = 0; n < 2; n++) {
                    s.toTheFront(x, SUM, h);
                    s.steps(x, SUM);
                }
                s.is("result(1) with two sums of house " + h, x.result(1), 0);
                s.steps(x, ASK, ASK, SUM, SUM);
                s.is("result(1), the first sum of house " + h + " counts", x.result(1), firstIsDamaged ? 0 : AGREED);
                s.is("letters()", x.letters(), firstIsDamaged ? 3 : 0);
            }
        }
    }

    private static void sumsOfAnyValue() {
        for (long value : new long[] {0L, BAD, NO, FULL, 1L, Long.MIN_VALUE, Long.MAX_VALUE}) {
            long nonce = Sentences.nonceFor(value, 0, 0, 0, 31, 62, 93);
            PolledHouses x = s.with(0, 1, 0);
            s.is("sum(0, 0, 0, " + nonce + ")", x.sum(0, 0, 0, nonce), value);
            x.poll(0, 0, nonce);
            s.steps(x, ASK, ASK, ASK, SUM);
            s.is("again(1), the sum " + value + " is there", x.again(1), 2);
            x.lose(3);
            x.lose(2);
            s.steps(x, SUM, SUM);
            s.is("result(1) with all sums " + value, x.result(1), AGREED);
            for (int h = 0; h < 3; h++) {
                PolledHouses y = s.with(0, 1, 0);
                y.damage(h, 0, 0, 1);
                y.poll(0, 0, nonce);
                s.steps(y, ASK, ASK, ASK, SUM, SUM, SUM);
                s.is("result(1), house " + h + " has another sum than " + value, y.result(1), 0);
                s.is("letters()", y.letters(), 3);
            }
        }
    }

    private static void twoSums() {
        for (int h = 0; h < 3; h++) {
            for (int result : new int[] {AGREED, MENDED}) {
                PolledHouses x = s.before(result);
                x.poll(0, 0, 1L);
                x.lose(h);
                x.twice(0);
                x.twice(1);
                s.steps(x, ASK, ASK, ASK, ASK, SUM, SUM, SUM, SUM);
                s.is("result(1) without house " + h, x.result(1), 0);
                s.is("letters() without house " + h, x.letters(), 0);
                s.is("again(1)", x.again(1), 1);
                s.letterIs(x, 0, ASK, 1, h);
                s.steps(x, ASK, SUM);
                s.is("result(1)", x.result(1), result == AGREED ? AGREED : 0);
                s.is("letters()", x.letters(), result == AGREED ? 0 : 3);
            }
        }
    }

    private static void alikeSums() {
        PolledHouses x = s.with(0, 16, 3);
        s.agree(x, 0, 7);
        s.is("letters(), no FETCH", x.letters(), 0);
        // All three damaged alike have sums that are alike.
        for (int h = 0; h < 3; h++) {
            x.damage(h, 0, 63, 1);
        }
        s.agree(x, 0, 7);
        s.is("at(0, 0, 63)", x.at(0, 0, 63), firstByte(3, 63) ^ 1);
    }

    private static void differentSums() {
        int[][] masks = {{1, 0, 0}, {0, 1, 0}, {0, 0, 1}, {1, 2, 4}};
        for (int[] mask : masks) {
            PolledHouses x = s.with(0, 9, 0);
            for (int h = 0; h < 3; h++) {
                x.damage(h, 0, 35, mask[h]);
            }
            x.poll(0, 0, 1L);
            s.steps(x, ASK, ASK, ASK);
            x.close(1);
            x.twice(0);
            x.twice(1);
            s.steps(x, SUM, SUM, SUM, SUM, SUM);
            s.is("letters(), once and to the closed house too", x.letters(), 3);
            for (int h = 0; h < 3; h++) {
                s.letterIs(x, h, FETCH, 1, h);
            }
            s.is("result(1)", x.result(1), 0);
        }
    }

    private static void fetchOpen() {
        for (int h = 0; h < 3; h++) {
            PolledHouses x = s.before(MENDED);
            s.toFetch(x, 0, 0);
            x.close(h);
            s.steps(x, FETCH, FETCH, FETCH);
            s.is("letters(), house " + h + " is closed", x.letters(), 2);
            s.letterIs(x, 0, COPY, 1, h == 0 ? 1 : 0);
            s.letterIs(x, 1, COPY, 1, h == 2 ? 1 : 2);
            s.steps(x, COPY, COPY);
            s.is("again(1)", x.again(1), 1);
            s.letterIs(x, 0, FETCH, 1, h);
            x.open(h);
            s.steps(x, FETCH, COPY);
            s.is("result(1)", x.result(1), MENDED);
        }
    }

    private static void copyAtThatTime() {
        // Whole again before FETCH arrives: there is nothing to mend.
        PolledHouses x = s.before(MENDED);
        s.toFetch(x, 0, 0);
        x.damage(0, 0, 0, 1);
        s.steps(x, FETCH, FETCH, FETCH, COPY, COPY, COPY);
        s.is("result(1)", x.result(1), MENDED);
        s.is("mends(0)", x.mends(0), 0);
        // Damaged when FETCH arrives and otherwise when COPY does: the copy has what was then.
        PolledHouses y = s.before(MENDED);
        s.toFetch(y, 0, 0);
        y.damage(1, 0, 0, 2);
        s.steps(y, FETCH, FETCH, FETCH);
        y.damage(1, 0, 0, 2);
        s.steps(y, COPY, COPY, COPY);
        s.is("result(1)", y.result(1), DIFFERENT);
    }

    private static void secondCopy() {
        for (int h = 0; h < 3; h++) {
            int odd = (h + 1) % 3;
            PolledHouses x = s.with(0, 1, 0);
            x.damage(odd, 0, 0, 1);
            s.toFetch(x, 0, 0);
            s.toTheFront(x, FETCH, h);
            x.twice(0);
            s.steps(x, FETCH);
            x.damage(h, 0, 0, 6);
            s.toTheFront(x, FETCH, h);
            s.steps(x, FETCH);
            x.damage(h, 0, 0, 6);
            for (int n = 0; n < 2; n++) {
                s.toTheFront(x, COPY, h);
                s.steps(x, COPY);
            }
            s.steps(x, FETCH, FETCH, COPY);
            s.is("result(1) with two copies of house " + h, x.result(1), 0);
            s.steps(x, COPY);
            s.is("result(1), the first copy of house " + h + " counts", x.result(1), MENDED);
            s.is("at(odd, 0, 0)", x.at(odd, 0, 0), 0);
        }
    }

    private static void copiesOfAnyValue() {
        for (int value : new int[] {0, 255}) {
            for (int odd = 0; odd < 3; odd++) {
                PolledHouses x = s.with(0, 9, 0);
                for (int h = 0; h < 3; h++) {
                    for (int i : new int[] {0, 1, 2, 3, 32, 33, 34, 35}) {
                        x.damage(h, 0, i, firstByte(0, i) ^ value);
                    }
                }
                x.damage(odd, 0, 35, 128);
                x.damage((odd + 1) % 3, 0, 0, 128);
                s.toFetch(x, 0, 0);
                s.steps(x, FETCH, FETCH, FETCH, COPY);
                s.is("again(1), a copy is there", x.again(1), 2);
                x.lose(3);
                x.lose(2);
                s.steps(x, COPY, COPY);
                s.is("result(1)", x.result(1), MENDED);
                s.is("at(odd, 0, 35)", x.at(odd, 0, 35), value);
                s.is("at(odd + 1, 0, 0)", x.at((odd + 1) % 3, 0, 0), value);
            }
        }
    }

    private static void twoCopies() {
        for (int h = 0; h < 3; h++) {
            for (int result : new int[] {MENDED, DIFFERENT}) {
                PolledHouses x = s.before(result);
                s.toFetch(x, 0, 0);
                x.lose(h);
                x.twice(0);
                x.twice(1);
                s.steps(x, FETCH, FETCH, FETCH, FETCH, COPY, COPY, COPY, COPY);
                s.is("result(1) without house " + h, x.result(1), 0);
                s.is("mends(0)", x.mends(0), 0);
                s.is("again(1)", x.again(1), 1);
                s.letterIs(x, 0, FETCH, 1, h);
                s.steps(x, FETCH, COPY);
                s.is("result(1)", x.result(1), result);
            }
        }
    }

    private static void threeDiffer() {
        // Each byte of either block, in which two houses differ from the third, each in its own way.
        for (int i : new int[] {0, 1, 2, 3, 32, 33, 34, 35}) {
            for (int h = 0; h < 3; h++) {
                PolledHouses x = s.with(0, 9, 0);
                x.damage(h, 0, i, 1);
                x.damage((h + 1) % 3, 0, i, 128);
                s.decide(x, 0, 0, DIFFERENT);
                s.is("disputes()", x.disputes(), 1);
            }
        }
        // Different bytes of one block are enough.
        PolledHouses y = s.with(0, 9, 0);
        y.damage(0, 0, 32, 1);
        y.damage(2, 0, 35, 1);
        s.decide(y, 0, 0, DIFFERENT);
        // The other block could be mended, and is not.
        PolledHouses z = s.with(0, 9, 0);
        z.damage(0, 0, 32, 1);
        z.damage(1, 0, 32, 2);
        z.damage(2, 0, 0, 1);
        s.decide(z, 0, 0, DIFFERENT);
        s.is("at(2, 0, 0)", z.at(2, 0, 0), 1);
        s.is("mends(2)", z.mends(2), 0);
    }

    private static void differOverTwoBlocks() {
        for (int h = 0; h < 3; h++) {
            int other = (h + 1) % 3;
            PolledHouses x = s.with(0, 16, 0);
            x.damage(h, 0, 28, 1);
            x.damage(other, 0, 60, 2);
            s.decide(x, 0, 7, MENDED);
            s.is("at(h, 0, 28)", x.at(h, 0, 28), firstByte(0, 28));
            s.is("at(other, 0, 60)", x.at(other, 0, 60), firstByte(0, 60));
            s.is("mends(h)", x.mends(h), 1);
            s.is("mends(other)", x.mends(other), 1);
            s.is("disputes()", x.disputes(), 0);
        }
    }

    private static void closedHouse() {
        for (int h = 0; h < 3; h++) {
            for (int odd = 0; odd < 3; odd++) {
                PolledHouses x = s.with(0, 1, 0);
                x.damage(odd, 0, 0, 1);
                s.toLastCopy(x, 0, 0);
                x.close(h);
                s.steps(x, COPY);
                s.is("result(1), house " + h + " is closed", x.result(1), GIVEN_UP);
                s.is("at(odd, 0, 0)", x.at(odd, 0, 0), 1);
                PolledHouses y = s.with(0, 1, 0);
                y.damage(odd, 0, 0, 1);
                s.toLastCopy(y, 0, 0);
                y.close(h);
                y.open(h);
                s.steps(y, COPY);
                s.is("result(1), house " + h + " is open again", y.result(1), MENDED);
            }
        }
        // Also when nothing would have been mended.
        PolledHouses z = s.before(MENDED);
        s.toFetch(z, 0, 0);
        z.damage(0, 0, 0, 1);
        s.steps(z, FETCH, FETCH, FETCH, COPY, COPY);
        z.close(2);
        s.steps(z, COPY);
        s.is("result(1), all alike and one closed", z.result(1), GIVEN_UP);
    }

    private static void differentComesFirst() {
        PolledHouses x = s.before(DIFFERENT);
        s.toLastCopy(x, 0, 0);
        x.close(1);
        s.steps(x, COPY);
        s.is("result(1), a house is closed", x.result(1), DIFFERENT);
        PolledHouses y = s.before(DIFFERENT);
        s.toLastCopy(y, 0, 0);
        y.damage(0, 0, 0, 1);
        y.damage(1, 0, 0, 2);
        s.steps(y, COPY);
        s.is("result(1), all are whole by now", y.result(1), DIFFERENT);
        s.is("disputes()", y.disputes(), 1);
    }

    private static void changedBytes() {
        for (int h = 0; h < 3; h++) {
            for (int i : new int[] {0, 3, 32, 35}) {
                PolledHouses x = s.with(0, 10, 0);
                x.damage(1, 0, 1, 1);
                s.toLastCopy(x, 0, 0);
                x.damage(h, 0, i, 64);
                s.steps(x, COPY);
                s.is("result(1), byte " + i + " of house " + h + " changed", x.result(1), GIVEN_UP);
            }
            PolledHouses y = s.with(0, 10, 0);
            y.deposit(1, 1, 0);
            y.damage(1, 0, 1, 1);
            s.toLastCopy(y, 0, 0);
            y.damage(h, 0, 4, 64);
            y.damage(h, 0, 31, 64);
            y.damage(h, 0, 36, 64);
            y.damage(h, 1, 0, 64);
            y.damage(h, 0, 0, 64);
            y.damage(h, 0, 0, 64);
            y.damage(h, 0, 0, 256);
            s.steps(y, COPY);
            s.is("result(1), other parts of house " + h + " changed", y.result(1), MENDED);
        }
    }

    /** Two polls of one part have the same copies; the first to be decided takes the second's away. */
    private static void mendedMeanwhile() {
        PolledHouses x = s.before(MENDED);
        x.poll(0, 0, 1L);
        x.poll(0, 0, 2L);
        for (int kind = ASK; kind <= FETCH; kind++) {
            s.steps(x, kind, kind, kind, kind, kind, kind);
        }
        s.steps(x, COPY, COPY, COPY);
        s.is("result(1)", x.result(1), MENDED);
        s.is("mends(0)", x.mends(0), 1);
        s.steps(x, COPY, COPY, COPY);
        s.is("result(2)", x.result(2), GIVEN_UP);
        s.is("mends(0)", x.mends(0), 1);
    }

    private static void givenUpMendsNothing() {
        PolledHouses x = s.with(0, 9, 0);
        x.damage(0, 0, 0, 1);
        x.damage(1, 0, 32, 1);
        s.toLastCopy(x, 0, 0);
        x.damage(2, 0, 35, 1);
        s.steps(x, COPY);
        s.is("result(1)", x.result(1), GIVEN_UP);
        s.is("at(0, 0, 0)", x.at(0, 0, 0), 1);
        s.is("at(1, 0, 32)", x.at(1, 0, 32), firstByte(0, 32) ^ 1);
        for (int h = 0; h < 3; h++) {
            s.is("mends(" + h + ")", x.mends(h), 0);
        }
        s.is("disputes()", x.disputes(), 0);
        s.is("done()", x.done(), 0);
    }

    private static void mendsBothBlocks() {
        for (int h = 0; h < 3; h++) {
            PolledHouses x = s.with(5, 16, 9);
            for (int i : new int[] {27, 28, 31, 32, 59, 60, 63}) {
                x.damage(h, 5, i, 255);
            }
            s.decide(x, 5, 7, MENDED);
            for (int g = 0; g < 3; g++) {
                for (int i = 0; i < 64; i++) {
                    boolean stays = g == h && (i == 27 || i == 32 || i == 59);
                    s.is("at(" + g + ", 5, " + i + ")", x.at(g, 5, i), firstByte(9, i) ^ (stays ? 255 : 0));
                }
                s.is("mends(" + g + ")", x.mends(g), g == h ? 2 : 0);
            }
        }
        // Two that are damaged alike are alike: the third becomes what they have.
        PolledHouses y = s.with(0, 1, 0);
        y.damage(0, 0, 3, 8);
        y.damage(2, 0, 3, 8);
        s.decide(y, 0, 0, MENDED);
        s.is("at(1, 0, 3)", y.at(1, 0, 3), 93 ^ 8);
        s.is("mends(1)", y.mends(1), 1);
    }

    private static void noneToMend() {
        PolledHouses x = s.before(MENDED);
        x.deposit(1, 1, 0);
        s.toFetch(x, 0, 0);
        x.damage(0, 0, 0, 1);
        s.steps(x, FETCH, FETCH, FETCH, COPY, COPY, COPY);
        s.is("result(1)", x.result(1), MENDED);
        for (int h = 0; h < 3; h++) {
            s.is("mends(" + h + ")", x.mends(h), 0);
        }
        s.is("done()", x.done(), 1);
    }

    private static void lettersToClosed() {
        PolledHouses x = s.before(MENDED);
        x.poll(0, 0, 1L);
        for (int h = 0; h < 3; h++) {
            x.close(h);
        }
        s.steps(x, ASK, ASK, ASK, 0);
        s.is("again(1), no sum has come", x.again(1), 3);
        s.letterIs(x, 0, ASK, 1, 0);
        for (int h = 0; h < 3; h++) {
            x.open(h);
        }
        s.steps(x, ASK, ASK, ASK, SUM, SUM, SUM);
        for (int h = 0; h < 3; h++) {
            x.close(h);
        }
        s.steps(x, FETCH, FETCH, FETCH, 0);
        s.is("result(1)", x.result(1), 0);
        s.is("again(1), no copy has come", x.again(1), 3);
        s.letterIs(x, 0, FETCH, 1, 0);
    }

    private static void lettersOfEnded() {
        for (int result = AGREED; result <= GIVEN_UP; result++) {
            PolledHouses x = s.endedWithLetters(result);
            int count = x.letters();
            int[] seen = seenOf(x);
            s.is("poll(0, 0, 1), which may stand where poll 1 stood", x.poll(0, 0, 1L), 2);
            for (int kind = ASK; kind < ASK + count; kind++) {
                s.steps(x, kind);
            }
            s.is("letters()", x.letters(), 3);
            int[] now = seenOf(x);
            for (int i = 0; i < seen.length; i++) {
                s.is("what is seen (" + i + ") after result " + result, now[i], seen[i]);
            }
            s.is("result(2)", x.result(2), 0);
            s.is("again(2), it has none of poll 1's sums", x.again(2), 3);
            s.letterIs(x, 3, ASK, 2, 0);
        }
    }

    private static int[] seenOf(PolledHouses x) {
        return new int[] {x.result(1), x.round(), x.done(), x.disputes(), x.mends(0), x.mends(1), x.mends(2),
            x.at(0, 0, 0), x.at(1, 0, 0), x.at(2, 0, 0)};
    }

    private static void askAndFetchOfEnded() {
        PolledHouses x = s.with(0, 1, 0);
        x.poll(0, 0, 1L);
        x.giveUp(1);
        s.steps(x, ASK, ASK, ASK);
        s.is("letters()", x.letters(), 0);
        PolledHouses y = s.before(MENDED);
        s.toFetch(y, 0, 0);
        y.giveUp(1);
        s.steps(y, FETCH, FETCH, FETCH);
        s.is("letters()", y.letters(), 0);
    }

    private static void firstRound() {
        PolledHouses x = new PolledHouses();
        s.is("round()", x.round(), 1);
        x.deposit(0, 2, 0);
        s.is("round()", x.round(), 1);
        s.agree(x, 0, 0);
        s.is("round()", x.round(), 1);
    }

    private static void partsOfTheRound() {
        for (int blocks = 1; blocks <= 16; blocks++) {
            int want = Math.min(8, blocks);
            PolledHouses x = s.with(3, blocks, 0);
            s.is("parts() of " + blocks + " blocks", x.parts(), want);
            for (int part = want - 1; part >= 0; part--) {
                s.is("round() before part " + part, x.round(), 1);
                s.agree(x, 3, part);
            }
            s.is("round(), all are done", x.round(), 2);
        }
        // All parts that there can be.
        PolledHouses y = new PolledHouses();
        for (int d = 0; d < 6; d++) {
            y.deposit(d, 16, d);
        }
        s.is("parts()", y.parts(), 48);
        for (int n = 0; n < 48; n++) {
            s.is("done()", y.done(), n);
            s.agree(y, n % 6, n / 6);
        }
        s.is("round()", y.round(), 2);
        s.is("done()", y.done(), 0);
    }

    private static void pollOfEarlierRound() {
        PolledHouses x = s.with(0, 2, 0);
        x.poll(0, 0, 1L);
        for (int k = 0; k < 3; k++) {
            x.lose(0);
        }
        s.agree(x, 0, 0);
        s.agree(x, 0, 1);
        s.is("round()", x.round(), 2);
        // Poll 1 was started in round 1 and is agreed in round 2: it counts in neither.
        s.is("again(1)", x.again(1), 3);
        s.steps(x, ASK, ASK, ASK, SUM, SUM, SUM);
        s.is("result(1)", x.result(1), AGREED);
        s.is("done()", x.done(), 0);
        s.agree(x, 0, 1);
        s.is("round(), part 0 is not done", x.round(), 2);
        s.is("done()", x.done(), 1);
        s.agree(x, 0, 0);
        s.is("round()", x.round(), 3);
    }

    private static void resultsThatCount() {
        for (int result = AGREED; result <= GIVEN_UP; result++) {
            PolledHouses x = s.ended(result);
            boolean counts = result == AGREED || result == MENDED;
            s.is("round() after result " + result, x.round(), counts ? 2 : 1);
            s.is("done() after result " + result, x.done(), 0);
        }
        PolledHouses y = s.with(0, 1, 0);
        y.poll(0, 0, 1L);
        s.is("done(), the poll is open", y.done(), 0);
        y.giveUp(1);
        s.is("round(), given up by a call", y.round(), 1);
        s.is("done(), given up by a call", y.done(), 0);
        // A part that is done stays done, whatever a later poll of it comes to.
        PolledHouses z = s.with(0, 2, 0);
        s.agree(z, 0, 0);
        z.damage(0, 0, 0, 1);
        z.damage(1, 0, 0, 2);
        s.decide(z, 0, 0, DIFFERENT);
        s.is("done()", z.done(), 1);
    }

    private static void allDone() {
        PolledHouses x = s.with(0, 2, 0);
        x.deposit(5, 1, 0);
        s.agree(x, 0, 1);
        s.agree(x, 5, 0);
        s.agree(x, 5, 0);
        s.agree(x, 0, 1);
        s.is("round(), two of three", x.round(), 1);
        s.is("done()", x.done(), 2);
        x.damage(1, 0, 0, 1);
        s.decide(x, 0, 0, MENDED);
        s.is("round()", x.round(), 2);
        s.is("done()", x.done(), 0);
    }

    private static void oneAtLeast() {
        PolledHouses x = new PolledHouses();
        s.is("step()", x.step(), 0);
        s.is("poll(0, 0, 1)", x.poll(0, 0, 1L), NO);
        s.is("giveUp(1)", x.giveUp(1), false);
        x.close(0);
        s.is("deposit(0, 1, 0), refused", x.deposit(0, 1, 0), NO);
        s.is("deposit(6, 1, 0), refused", x.deposit(6, 1, 0), BAD);
        s.is("step()", x.step(), 0);
        s.is("round()", x.round(), 1);
        s.is("done()", x.done(), 0);
        s.is("parts()", x.parts(), 0);
        x.open(0);
        s.is("deposit(0, 1, 0)", x.deposit(0, 1, 0), 4);
        s.is("round()", x.round(), 1);
        s.agree(x, 0, 0);
        s.is("round(), one is enough", x.round(), 2);
    }

    private static void newRound() {
        PolledHouses x = s.with(0, 2, 0);
        for (int n = 1; n <= 20; n++) {
            s.is("round()", x.round(), n);
            s.is("done()", x.done(), 0);
            // The part that ended the round before is not done in this one.
            s.agree(x, 0, n % 2);
            s.is("done()", x.done(), 1);
            s.is("round()", x.round(), n);
            s.agree(x, 0, (n + 1) % 2);
        }
        s.is("round()", x.round(), 21);
        s.is("done()", x.done(), 0);
        s.is("parts()", x.parts(), 2);
    }

    private static void depositInTheRound() {
        PolledHouses x = s.with(0, 1, 0);
        x.poll(0, 0, 1L);
        s.steps(x, ASK, ASK, ASK, SUM, SUM);
        s.is("deposit(1, 1, 0)", x.deposit(1, 1, 0), 4);
        s.is("deposit(1, 9, 0), refused", x.deposit(1, 9, 0), NO);
        s.is("parts()", x.parts(), 2);
        s.steps(x, SUM);
        s.is("round(), the new part is not done", x.round(), 1);
        s.is("done()", x.done(), 1);
        s.agree(x, 1, 0);
        s.is("round()", x.round(), 2);
        // In round 2, after its first part is done, which stays done.
        s.agree(x, 0, 0);
        s.is("deposit(2, 1, 0)", x.deposit(2, 1, 0), 4);
        s.is("round()", x.round(), 2);
        s.is("done()", x.done(), 1);
        s.is("parts()", x.parts(), 3);
        s.agree(x, 1, 0);
        s.is("round()", x.round(), 2);
        s.is("done()", x.done(), 2);
        s.agree(x, 2, 0);
        s.is("round()", x.round(), 3);
    }
}
