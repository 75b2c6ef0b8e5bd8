/** The edges that each promise names (empty, full, too small, too large, refused), each under its own words. */
public final class PromisesEdgesTest {
    private static final int BAD = Sentences.BAD;
    private static final int NO = Sentences.NO;
    private static final int FULL = Sentences.FULL;
    private static final int ASK = Sentences.ASK;
    private static final int SUM = Sentences.SUM;
    private static final int FETCH = Sentences.FETCH;
    private static final int COPY = Sentences.COPY;
    private static final int AGREED = Sentences.AGREED;
    private static final int MENDED = Sentences.MENDED;
    private static final int DIFFERENT = Sentences.DIFFERENT;
    private static final int GIVEN_UP = Sentences.GIVEN_UP;
    private static final int LEAST = Sentences.LEAST;
    private static final int MOST = Sentences.MOST;
    private static final int ROW = Sentences.ROW;

    private static final Sentences s = new Sentences();

    public static void main(String[] args) {
        newObject();
        bytesOfDeposits();
        polls();
        row();
        endsOfPolls();
        houses();
        counts();
        s.end();
    }

    private static void newObject() {
        s.holds("1: No deposits", PromisesEdgesTest::noDeposits);
        s.holds("1: all houses open", PromisesEdgesTest::allHousesOpen);
        s.holds("1: no polls", PromisesEdgesTest::noPolls);
    }

    private static void bytesOfDeposits() {
        s.holds("2: byte i is (fill + 31 * i) & 255", PromisesEdgesTest::fillsThatWrap);
        s.holds("2: how many bytes", PromisesEdgesTest::howManyBytes);
        s.holds("2: BAD when there is no such deposit", PromisesEdgesTest::depositNoSuch);
        s.holds("2: or blocks is not 1 .. 16", PromisesEdgesTest::depositBlocks);
        s.holds("2: NO when it is there already", PromisesEdgesTest::depositThere);
        s.holds("2: or a house is closed", PromisesEdgesTest::depositClosed);
        s.holds("3: 0 when it is not there", PromisesEdgesTest::blocksNotThere);
        s.holds("4: 0 .. 255", PromisesEdgesTest::atAllValues);
        s.holds("4: BAD when there is no such house or byte", PromisesEdgesTest::atNoSuch);
        s.holds("4, 5, 6: in a house (open or not)", PromisesEdgesTest::bytesOfClosedHouse);
        s.holds("5: ^ the lowest byte of mask", PromisesEdgesTest::damageLowestByte);
        s.holds("5: BAD when there is no such house or byte", PromisesEdgesTest::damageNoSuch);
        s.holds("6: 0 when there is no such house", PromisesEdgesTest::sumNoHouse);
        s.holds("6: (no such) part", PromisesEdgesTest::sumNoPart);
        s.holds("6: or deposit that is there", PromisesEdgesTest::sumNoDeposit);
    }

    private static void polls() {
        s.holds("7: the letters ASK to house 0, 1 and 2 come to the row", PromisesEdgesTest::pollSends);
        s.holds("7: BAD when there is no such deposit or part", PromisesEdgesTest::pollNoSuch);
        s.holds("7: NO when the deposit is not there", PromisesEdgesTest::pollNotThere);
        s.holds("7: or has no block in it", PromisesEdgesTest::pollNoBlock);
        s.holds("7: FULL when 6 are open", PromisesEdgesTest::pollFull);
        s.holds("8: to the houses 0 .. 2 of which it has none yet (ASK)", PromisesEdgesTest::againAsks);
        s.holds("8: (or, if it has all sums, FETCH)", PromisesEdgesTest::againFetches);
        s.holds("8: how many (those that are lost, too)", PromisesEdgesTest::againCountsLost);
        s.holds("8: BAD when there is no such poll", PromisesEdgesTest::againNoSuch);
        s.holds("8: NO when it is not open", PromisesEdgesTest::againNotOpen);
    }

    private static void row() {
        s.holds("9: The oldest letter leaves the row and arrives", PromisesEdgesTest::stepOldest);
        s.holds("9: 0 when there is none", PromisesEdgesTest::stepNone);
        s.holds("10: Letter k (0 is the oldest) leaves the row: what it was", PromisesEdgesTest::loseEnds);
        s.holds("10: BAD when there is none such", PromisesEdgesTest::loseNone);
        s.holds("11: Letter k comes to the row once more, behind all: how many there are",
            PromisesEdgesTest::twiceEnds);
        s.holds("11: BAD", PromisesEdgesTest::twiceNone);
        s.holds("11: FULL", PromisesEdgesTest::twiceFull);
        s.holds("12: How many letters are under way", PromisesEdgesTest::lettersEmptyToFull);
        s.holds("13: what it is (what = 0), its poll (1), its house (2)", PromisesEdgesTest::letterEnds);
        s.holds("13: BAD when there is none such", PromisesEdgesTest::letterNone);
        s.holds("13: or for another what", PromisesEdgesTest::letterOtherWhat);
    }

    private static void endsOfPolls() {
        s.holds("14: A poll is given up: true", PromisesEdgesTest::giveUpOpen);
        s.holds("14: false when there is no such poll", PromisesEdgesTest::giveUpNoSuch);
        s.holds("14: or it is not open", PromisesEdgesTest::giveUpNotOpen);
        s.holds("15: BAD when there is no such poll", PromisesEdgesTest::resultNoSuch);
    }

    private static void houses() {
        s.holds("16: A house closes: true", PromisesEdgesTest::closeEach);
        s.holds("16: false when there is none such", PromisesEdgesTest::closeNone);
        s.holds("16: or it is closed", PromisesEdgesTest::closeClosed);
        s.holds("17: A house opens", PromisesEdgesTest::openEach);
        s.holds("17: likewise (none such)", PromisesEdgesTest::openNone);
        s.holds("17: likewise (it is open)", PromisesEdgesTest::openOpen);
    }

    private static void counts() {
        s.holds("18: The round's number", PromisesEdgesTest::roundNumber);
        s.holds("19: How many parts are done in this round", PromisesEdgesTest::doneNoneToAllButOne);
        s.holds("20: How many parts belong to a round now", PromisesEdgesTest::partsNoneToAll);
        s.holds("21: How many blocks were mended in a house", PromisesEdgesTest::mendsByBlocks);
        s.holds("21: BAD", PromisesEdgesTest::mendsNone);
        s.holds("22: How many polls had the result 3", PromisesEdgesTest::disputesOnlyThree);
    }

    private static void noDeposits() {
        PolledHouses x = new PolledHouses();
        for (int d = 0; d < 6; d++) {
            s.is("blocks(" + d + ")", x.blocks(d), 0);
            s.is("at(0, " + d + ", 0)", x.at(0, d, 0), BAD);
            s.is("damage(0, " + d + ", 0, 1)", x.damage(0, d, 0, 1), BAD);
            s.is("sum(0, " + d + ", 0, 5)", x.sum(0, d, 0, 5L), 0);
            s.is("poll(" + d + ", 0, 5)", x.poll(d, 0, 5L), NO);
        }
        s.is("parts()", x.parts(), 0);
        s.is("done()", x.done(), 0);
        s.is("round()", x.round(), 1);
    }

    private static void allHousesOpen() {
        PolledHouses x = new PolledHouses();
        for (int h = 0; h < 3; h++) {
            s.isOpen(x, h);
            s.is("mends(" + h + ")", x.mends(h), 0);
        }
        s.is("deposit(0, 1, 0)", x.deposit(0, 1, 0), 4);
    }

    private static void noPolls() {
        PolledHouses x = new PolledHouses();
        for (int p = 0; p <= 1; p++) {
            s.is("result(" + p + ")", x.result(p), BAD);
            s.is("again(" + p + ")", x.again(p), BAD);
            s.is("giveUp(" + p + ")", x.giveUp(p), false);
        }
        s.is("letters()", x.letters(), 0);
        s.is("step()", x.step(), 0);
        s.is("lose(0)", x.lose(0), BAD);
        s.is("twice(0)", x.twice(0), BAD);
        s.is("letter(0, 0)", x.letter(0, 0), BAD);
        s.is("disputes()", x.disputes(), 0);
        s.is("deposit(0, 1, 0)", x.deposit(0, 1, 0), 4);
        s.is("poll(0, 0, 5)", x.poll(0, 0, 5L), 1);
    }

    private static void fillsThatWrap() {
        for (int fill : new int[] {0, 1, 255, 256, 257, -1, -256, LEAST, LEAST + 1, MOST, MOST - 31}) {
            PolledHouses x = s.with(0, 16, fill);
            for (int h = 0; h < 3; h++) {
                for (int i = 0; i < 64; i++) {
                    int want = (int) Math.floorMod((long) fill + 31L * i, 256L);
                    s.is("at(" + h + ", 0, " + i + ") of fill " + fill, x.at(h, 0, i), want);
                }
            }
        }
    }

    private static void howManyBytes() {
        for (int blocks = 1; blocks <= 16; blocks++) {
            PolledHouses x = new PolledHouses();
            s.is("deposit(5, " + blocks + ", 1)", x.deposit(5, blocks, 1), 4 * blocks);
            s.is("at(0, 5, last)", x.at(0, 5, 4 * blocks - 1), (1 + 31 * (4 * blocks - 1)) % 256);
            s.is("at(0, 5, last + 1)", x.at(0, 5, 4 * blocks), BAD);
        }
    }

    private static void depositNoSuch() {
        PolledHouses x = s.with(5, 2, 0);
        String before = Sentences.state(x);
        for (int d : Sentences.NO_DEPOSIT) {
            s.is("deposit(" + d + ", 1, 0)", x.deposit(d, 1, 0), BAD);
            s.is("deposit(" + d + ", 16, 0)", x.deposit(d, 16, 0), BAD);
            s.is("deposit(" + d + ", 0, 0)", x.deposit(d, 0, 0), BAD);
        }
        s.unchanged(before, x);
        s.is("deposit(0, 1, 0)", x.deposit(0, 1, 0), 4);
    }

    private static void depositBlocks() {
        PolledHouses x = s.with(5, 2, 0);
        String before = Sentences.state(x);
        for (int blocks : new int[] {0, 17, -1, LEAST, MOST, 1 << 30, 256 + 1}) {
            s.is("deposit(0, " + blocks + ", 0)", x.deposit(0, blocks, 0), BAD);
            s.is("deposit(5, " + blocks + ", 0), which is there", x.deposit(5, blocks, 0), BAD);
        }
        s.unchanged(before, x);
        s.is("deposit(0, 1, 0)", x.deposit(0, 1, 0), 4);
        s.is("deposit(1, 16, 0)", x.deposit(1, 16, 0), 64);
    }

    private static void depositThere() {
        for (int d = 0; d < 6; d++) {
            PolledHouses x = s.with(d, 2, 7);
            String before = Sentences.state(x);
            s.is("deposit again, alike", x.deposit(d, 2, 7), NO);
            s.is("deposit again, larger", x.deposit(d, 16, 8), NO);
            s.is("deposit again, smaller", x.deposit(d, 1, 9), NO);
            s.unchanged(before, x);
        }
    }

    private static void depositClosed() {
        for (int h = 0; h < 3; h++) {
            PolledHouses x = s.with(0, 1, 7);
            x.close(h);
            String before = Sentences.state(x);
            s.is("deposit(1, 1, 7), closed " + h, x.deposit(1, 1, 7), NO);
            s.is("deposit(0, 1, 7), closed " + h, x.deposit(0, 1, 7), NO);
            s.is("deposit(6, 1, 7), closed " + h, x.deposit(6, 1, 7), BAD);
            s.is("deposit(1, 17, 7), closed " + h, x.deposit(1, 17, 7), BAD);
            s.unchanged(before, x);
            s.isClosed(x, h);
            x.open(h);
            s.is("deposit(1, 1, 7), open again", x.deposit(1, 1, 7), 4);
            s.is("at(h, 1, 0)", x.at(h, 1, 0), 7);
        }
        PolledHouses y = new PolledHouses();
        for (int h = 0; h < 3; h++) {
            y.close(h);
        }
        for (int h = 0; h < 3; h++) {
            s.is("deposit(0, 1, 7), some are closed", y.deposit(0, 1, 7), NO);
            y.open(h);
        }
        s.is("deposit(0, 1, 7), all are open", y.deposit(0, 1, 7), 4);
    }

    private static void blocksNotThere() {
        PolledHouses x = s.with(5, 16, 0);
        s.is("blocks(5)", x.blocks(5), 16);
        for (int d = 0; d < 5; d++) {
            s.is("blocks(" + d + ")", x.blocks(d), 0);
        }
        for (int d : Sentences.NO_DEPOSIT) {
            s.is("blocks(" + d + ")", x.blocks(d), 0);
        }
        x.deposit(0, 1, 0);
        s.is("blocks(0)", x.blocks(0), 1);
        s.is("blocks(5)", x.blocks(5), 16);
    }

    /** In each place of a block: a byte from 128 up is no negative number, whatever holds it. */
    private static void atAllValues() {
        for (int i = 0; i < 4; i++) {
            PolledHouses x = s.with(0, 1, 0);
            for (int value : new int[] {0, 1, 127, 128, 254, 255}) {
                int mask = x.at(1, 0, i) ^ value;
                s.is("damage(1, 0, " + i + ", " + mask + ")", x.damage(1, 0, i, mask), value);
                s.is("at(1, 0, " + i + ")", x.at(1, 0, i), value);
            }
        }
    }

    private static final int[][] NO_BYTE = {{-1, 5, 0}, {3, 5, 0}, {LEAST, 5, 0}, {MOST, 5, 0}, {0, -1, 0},
        {0, 6, 0}, {0, 4, 0}, {0, LEAST, 0}, {0, MOST, 0}, {0, 5, -1}, {0, 5, 12}, {0, 5, 64}, {0, 5, LEAST},
        {0, 5, MOST}, {-1, -1, -1}, {3, 6, 64}};

    private static void atNoSuch() {
        PolledHouses x = s.with(5, 3, 9);
        for (int[] no : NO_BYTE) {
            s.is("at(" + no[0] + ", " + no[1] + ", " + no[2] + ")", x.at(no[0], no[1], no[2]), BAD);
        }
        for (int h = 0; h < 3; h++) {
            s.is("at(" + h + ", 5, 0)", x.at(h, 5, 0), 9);
            s.is("at(" + h + ", 5, 11)", x.at(h, 5, 11), (9 + 31 * 11) % 256);
        }
    }

    private static void bytesOfClosedHouse() {
        for (int h = 0; h < 3; h++) {
            PolledHouses x = s.with(0, 1, 200);
            x.close(h);
            s.is("at(" + h + ", 0, 0), closed", x.at(h, 0, 0), 200);
            s.is("damage(" + h + ", 0, 0, 3), closed", x.damage(h, 0, 0, 3), 203);
            s.is("at(" + h + ", 0, 0), closed", x.at(h, 0, 0), 203);
            s.is("sum(" + h + ", 0, 0, 9), closed", x.sum(h, 0, 0, 9L), Sentences.sumOf(9L, 0, 0, 203, 231, 6, 37));
            s.is("mends(" + h + "), closed", x.mends(h), 0);
            s.isClosed(x, h);
        }
    }

    private static void damageLowestByte() {
        for (int mask : new int[] {0, 1, 255, 256, 257, 0x7FFFFF00, 0xFFFFFF80, -1, LEAST, MOST}) {
            for (int hit = 0; hit < 8; hit++) {
                PolledHouses x = s.with(0, 2, 100);
                int want = ((100 + 31 * hit) % 256) ^ (mask & 255);
                s.is("damage(1, 0, " + hit + ", " + mask + ")", x.damage(1, 0, hit, mask), want);
                for (int i = 0; i < 8; i++) {
                    int first = (100 + 31 * i) % 256;
                    s.is("at(1, 0, " + i + ")", x.at(1, 0, i), i == hit ? want : first);
                    s.is("at(0, 0, " + i + ")", x.at(0, 0, i), first);
                }
            }
        }
    }

    private static void damageNoSuch() {
        PolledHouses x = s.with(5, 3, 9);
        x.deposit(0, 1, 0);
        String before = Sentences.state(x);
        for (int[] no : NO_BYTE) {
            s.is("damage(" + no[0] + ", " + no[1] + ", " + no[2] + ", 255)", x.damage(no[0], no[1], no[2], 255), BAD);
        }
        s.unchanged(before, x);
        for (int h = 0; h < 3; h++) {
            s.is("damage(" + h + ", 5, 11, 255)", x.damage(h, 5, 11, 255), ((9 + 31 * 11) % 256) ^ 255);
        }
    }

    private static void sumNoHouse() {
        PolledHouses x = s.with(3, 2, 200);
        for (int h : Sentences.NO_HOUSE) {
            s.is("sum(" + h + ", 3, 0, 9)", x.sum(h, 3, 0, 9L), 0);
            s.is("sum(" + h + ", 3, 7, 9)", x.sum(h, 3, 7, 9L), 0);
        }
        for (int h = 0; h < 3; h++) {
            s.is("sum(" + h + ", 3, 0, 9)", x.sum(h, 3, 0, 9L), Sentences.sumOf(9L, 3, 0, 200, 231, 6, 37));
        }
    }

    /** A part that is no part has the sum 0; one without blocks is a part, and its sum is the nonce. */
    private static void sumNoPart() {
        PolledHouses x = s.with(3, 2, 200);
        for (int part : Sentences.NO_PART) {
            s.is("sum(0, 3, " + part + ", 9)", x.sum(0, 3, part, 9L), 0);
        }
        for (int part = 2; part < 8; part++) {
            s.is("sum(0, 3, " + part + ", 9)", x.sum(0, 3, part, 9L), 9L);
        }
    }

    private static void sumNoDeposit() {
        PolledHouses x = s.with(3, 2, 200);
        for (int d : Sentences.NO_DEPOSIT) {
            s.is("sum(0, " + d + ", 0, 9)", x.sum(0, d, 0, 9L), 0);
        }
        for (int d = 0; d < 6; d++) {
            s.is("sum(0, " + d + ", 7, 9), not there but 3", x.sum(0, d, 7, 9L), d == 3 ? 9L : 0L);
        }
    }

    private static void pollSends() {
        PolledHouses x = s.with(0, 16, 0);
        for (int p = 1; p <= 6; p++) {
            s.is("poll(0, " + (8 - p) + ", 1)", x.poll(0, 8 - p, 1L), p);
            s.is("letters()", x.letters(), 3 * p);
            for (int h = 0; h < 3; h++) {
                s.letterIs(x, 3 * p - 3 + h, ASK, p, h);
            }
        }
        // To closed houses, too.
        PolledHouses y = s.with(0, 1, 0);
        for (int h = 0; h < 3; h++) {
            y.close(h);
        }
        s.is("poll(0, 0, 1), all closed", y.poll(0, 0, 1L), 1);
        s.is("letters()", y.letters(), 3);
    }

    private static void pollNoSuch() {
        PolledHouses x = s.with(0, 16, 0);
        String before = Sentences.state(x);
        for (int d : Sentences.NO_DEPOSIT) {
            s.is("poll(" + d + ", 0, 1)", x.poll(d, 0, 1L), BAD);
            s.is("poll(" + d + ", 8, 1)", x.poll(d, 8, 1L), BAD);
        }
        for (int part : Sentences.NO_PART) {
            s.is("poll(0, " + part + ", 1)", x.poll(0, part, 1L), BAD);
            s.is("poll(1, " + part + ", 1), which is not there", x.poll(1, part, 1L), BAD);
        }
        s.unchanged(before, x);
        for (int p = 1; p <= 6; p++) {
            x.poll(0, 0, 1L);
        }
        s.is("poll(6, 0, 1), 6 open", x.poll(6, 0, 1L), BAD);
        s.is("poll(0, 8, 1), 6 open", x.poll(0, 8, 1L), BAD);
    }

    private static void pollNotThere() {
        PolledHouses x = s.with(2, 16, 0);
        String before = Sentences.state(x);
        for (int d = 0; d < 6; d++) {
            for (int part = 0; part < 8 && d != 2; part++) {
                s.is("poll(" + d + ", " + part + ", 1)", x.poll(d, part, 1L), NO);
            }
        }
        s.unchanged(before, x);
        for (int p = 1; p <= 6; p++) {
            s.is("poll(2, 7, 1)", x.poll(2, 7, 1L), p);
        }
        s.is("poll(1, 0, 1), 6 open", x.poll(1, 0, 1L), NO);
    }

    private static void pollNoBlock() {
        for (int blocks = 1; blocks <= 9; blocks++) {
            PolledHouses x = s.with(2, blocks, 0);
            String before = Sentences.state(x);
            for (int part = blocks; part < 8; part++) {
                s.is("poll(2, " + part + ", 1) of " + blocks + " blocks", x.poll(2, part, 1L), NO);
            }
            s.unchanged(before, x);
            int last = Math.min(7, blocks - 1);
            for (int p = 1; p <= 6; p++) {
                s.is("poll(2, " + last + ", 1) of " + blocks + " blocks", x.poll(2, last, 1L), p);
            }
            s.is("poll(2, 7, 1), 6 open", x.poll(2, 7, 1L), blocks > 7 ? FULL : NO);
        }
    }

    private static void pollFull() {
        PolledHouses x = s.with(0, 2, 0);
        for (int p = 1; p <= 6; p++) {
            s.is("poll(0, 0, 1)", x.poll(0, 0, 1L), p);
        }
        String before = Sentences.state(x);
        s.is("poll(0, 0, 1), 6 open", x.poll(0, 0, 1L), FULL);
        s.is("poll(0, 1, 1), 6 open", x.poll(0, 1, 1L), FULL);
        s.unchanged(before, x);
        s.is("result(7)", x.result(7), BAD);
        for (int p : new int[] {6, 1, 3}) {
            s.is("giveUp(" + p + ")", x.giveUp(p), true);
        }
        for (int p = 7; p <= 9; p++) {
            s.is("poll(0, 1, 1), room for it", x.poll(0, 1, 1L), p);
        }
        s.is("poll(0, 1, 1), 6 open", x.poll(0, 1, 1L), FULL);
    }

    private static void againAsks() {
        for (int known = 0; known < 7; known++) {
            PolledHouses x = s.with(0, 1, 0);
            x.poll(0, 0, 1L);
            for (int h = 2; h >= 0; h--) {
                if ((known >> h & 1) == 0) {
                    x.lose(h);
                }
            }
            int count = Integer.bitCount(known);
            for (int n = 0; n < count; n++) {
                s.steps(x, ASK);
            }
            s.is("again(1), the sums are under way", x.again(1), 3);
            for (int n = 0; n < 3; n++) {
                x.lose(count);
            }
            for (int n = 0; n < count; n++) {
                s.steps(x, SUM);
            }
            s.is("again(1) with " + count + " sums", x.again(1), 3 - count);
            awaitedAre(x, ASK, known);
        }
    }

    private static void againFetches() {
        for (int known = 0; known < 7; known++) {
            PolledHouses x = s.before(MENDED);
            s.toFetch(x, 0, 0);
            for (int h = 2; h >= 0; h--) {
                if ((known >> h & 1) == 0) {
                    x.lose(h);
                }
            }
            int count = Integer.bitCount(known);
            for (int n = 0; n < count; n++) {
                s.steps(x, FETCH);
            }
            for (int n = 0; n < count; n++) {
                s.steps(x, COPY);
            }
            s.is("again(1) with " + count + " copies", x.again(1), 3 - count);
            awaitedAre(x, FETCH, known);
        }
    }

    /** The row has letters of this kind of poll 1 to the houses that are not known, in their order. */
    private static void awaitedAre(PolledHouses x, int kind, int known) {
        int k = 0;
        for (int h = 0; h < 3; h++) {
            if ((known >> h & 1) == 0) {
                s.letterIs(x, k, kind, 1, h);
                k++;
            }
        }
        s.is("letters()", x.letters(), k);
    }

    private static void againCountsLost() {
        PolledHouses x = s.with(0, 1, 0);
        x.poll(0, 0, 1L);
        s.crowd(x, ROW);
        String before = Sentences.state(x);
        s.is("again(1), no room", x.again(1), 3);
        s.unchanged(before, x);
        x.lose(0);
        s.is("again(1), room for one", x.again(1), 3);
        s.letterIs(x, ROW - 1, ASK, 1, 0);
        x.lose(0);
        x.lose(0);
        s.is("again(1), room for two", x.again(1), 3);
        s.letterIs(x, ROW - 1, ASK, 1, 1);
        s.is("letters()", x.letters(), ROW);
        // House 0 has answered: two are counted, none of which has room.
        PolledHouses y = s.with(0, 1, 0);
        y.poll(0, 0, 1L);
        s.steps(y, ASK);
        s.toTheFront(y, SUM, 0);
        s.steps(y, SUM);
        s.crowd(y, ROW);
        s.is("again(1), no room", y.again(1), 2);
        s.is("letters()", y.letters(), ROW);
    }

    private static void againNoSuch() {
        PolledHouses x = s.with(0, 1, 0);
        s.is("again(1), none yet", x.again(1), BAD);
        s.is("again(0), none yet", x.again(0), BAD);
        x.poll(0, 0, 1L);
        x.poll(0, 0, 1L);
        String before = Sentences.state(x);
        for (int p : new int[] {0, 3, -1, LEAST, MOST}) {
            s.is("again(" + p + ")", x.again(p), BAD);
        }
        s.unchanged(before, x);
    }

    private static void againNotOpen() {
        for (int result = AGREED; result <= GIVEN_UP; result++) {
            PolledHouses x = s.ended(result);
            String before = Sentences.state(x);
            s.is("again(1) after result " + result, x.again(1), NO);
            s.unchanged(before, x);
        }
        PolledHouses y = s.with(0, 1, 0);
        y.poll(0, 0, 1L);
        y.giveUp(1);
        s.is("again(1), given up", y.again(1), NO);
        s.is("letters()", y.letters(), 3);
    }

    private static void stepOldest() {
        PolledHouses x = s.with(0, 1, 0);
        x.poll(0, 0, 1L);
        x.lose(1);
        s.crowd(x, ROW);
        // The second is of house 2; all the others are of house 0.
        s.steps(x, ASK);
        s.letterIs(x, 0, ASK, 1, 2);
        s.letterIs(x, ROW - 1, SUM, 1, 0);
        s.steps(x, ASK);
        s.letterIs(x, 0, ASK, 1, 0);
        s.letterIs(x, ROW - 1, SUM, 1, 2);
        s.is("letters()", x.letters(), ROW);
    }

    private static void stepNone() {
        PolledHouses x = new PolledHouses();
        s.is("step() of a new object", x.step(), 0);
        x.deposit(0, 2, 0);
        s.agree(x, 0, 0);
        String before = Sentences.state(x);
        s.is("step() after the last letter", x.step(), 0);
        s.is("step() once more", x.step(), 0);
        s.unchanged(before, x);
        x.poll(0, 1, 1L);
        for (int n = 0; n < 3; n++) {
            x.lose(0);
        }
        s.is("step(), all were lost", x.step(), 0);
        s.is("result(2)", x.result(2), 0);
    }

    private static void loseEnds() {
        PolledHouses x = s.endedWithLetters(MENDED);
        s.is("lose(3), the last", x.lose(3), COPY);
        s.is("lose(0), the oldest", x.lose(0), ASK);
        s.is("lose(1), the last", x.lose(1), FETCH);
        s.is("lose(0), the only one", x.lose(0), SUM);
        s.is("letters()", x.letters(), 0);
        // The others stay in their order, from a full row too.
        for (int lost : new int[] {0, 1, 2, 22, 23}) {
            PolledHouses y = rowOfSixPolls();
            int[] names = namesOf(y);
            s.is("lose(" + lost + ")", y.lose(lost), ASK);
            s.is("letters()", y.letters(), ROW - 1);
            for (int k = 0; k < ROW - 1; k++) {
                s.is("letter " + k, nameOf(y, k), names[k < lost ? k : k + 1]);
            }
        }
    }

    /** A full row: the ASK of six polls, and those of polls 6 and 5 once more. */
    private static PolledHouses rowOfSixPolls() {
        PolledHouses x = s.with(0, 1, 0);
        for (int p = 1; p <= 6; p++) {
            s.is("poll(0, 0, 1)", x.poll(0, 0, 1L), p);
        }
        x.again(6);
        x.again(5);
        s.is("letters()", x.letters(), ROW);
        return x;
    }

    private static int nameOf(PolledHouses x, int k) {
        return 100 * x.letter(k, 0) + 10 * x.letter(k, 1) + x.letter(k, 2);
    }

    private static int[] namesOf(PolledHouses x) {
        int[] names = new int[x.letters()];
        for (int k = 0; k < names.length; k++) {
            names[k] = nameOf(x, k);
        }
        return names;
    }

    private static void loseNone() {
        PolledHouses x = s.with(0, 1, 0);
        s.is("lose(0), an empty row", x.lose(0), BAD);
        s.is("lose(-1), an empty row", x.lose(-1), BAD);
        x.poll(0, 0, 1L);
        String before = Sentences.state(x);
        for (int k : new int[] {-1, 3, ROW - 1, ROW, LEAST, MOST}) {
            s.is("lose(" + k + ")", x.lose(k), BAD);
        }
        s.unchanged(before, x);
        s.crowd(x, ROW);
        s.is("lose(24), a full row", x.lose(ROW), BAD);
        s.is("lose(-1), a full row", x.lose(-1), BAD);
        s.is("letters()", x.letters(), ROW);
        for (int n = ROW; n > 0; n--) {
            x.lose(n - 1);
        }
        s.is("lose(0), empty again", x.lose(0), BAD);
        s.is("letters()", x.letters(), 0);
    }

    private static void twiceEnds() {
        for (int k : new int[] {0, 3}) {
            PolledHouses x = s.endedWithLetters(MENDED);
            s.is("twice(" + k + ")", x.twice(k), 5);
            for (int n = 0; n < 4; n++) {
                s.letterIs(x, n, ASK + n, 1, 0);
            }
            s.letterIs(x, 4, ASK + k, 1, 0);
        }
        // From 23 letters to 24.
        for (int k : new int[] {0, 22}) {
            PolledHouses y = rowOfSixPolls();
            y.lose(11);
            int[] names = namesOf(y);
            s.is("twice(" + k + ")", y.twice(k), ROW);
            for (int n = 0; n < ROW - 1; n++) {
                s.is("letter " + n, nameOf(y, n), names[n]);
            }
            s.is("letter 23", nameOf(y, ROW - 1), names[k]);
        }
    }

    private static void twiceNone() {
        PolledHouses x = s.with(0, 1, 0);
        s.is("twice(0), an empty row", x.twice(0), BAD);
        x.poll(0, 0, 1L);
        String before = Sentences.state(x);
        for (int k : new int[] {-1, 3, ROW - 1, ROW, LEAST, MOST}) {
            s.is("twice(" + k + ")", x.twice(k), BAD);
        }
        s.unchanged(before, x);
        // No such letter is BAD before the row is FULL.
        s.crowd(x, ROW);
        for (int k : new int[] {-1, ROW, LEAST, MOST}) {
            s.is("twice(" + k + "), a full row", x.twice(k), BAD);
        }
    }

    private static void twiceFull() {
        PolledHouses x = rowOfSixPolls();
        String before = Sentences.state(x);
        for (int k : new int[] {0, 1, 22, 23}) {
            s.is("twice(" + k + ")", x.twice(k), FULL);
        }
        s.unchanged(before, x);
        x.lose(23);
        s.is("twice(0), room for one", x.twice(0), ROW);
        s.is("twice(0), full again", x.twice(0), FULL);
    }

    private static void lettersEmptyToFull() {
        PolledHouses x = s.with(0, 1, 0);
        s.is("letters()", x.letters(), 0);
        x.poll(0, 0, 1L);
        for (int n = 3; n < ROW; n++) {
            s.is("letters()", x.letters(), n);
            x.twice(0);
        }
        s.is("letters()", x.letters(), ROW);
        x.twice(0);
        x.again(1);
        s.is("letters(), no more than 24", x.letters(), ROW);
        x.giveUp(1);
        s.is("letters(), those of an ended poll stay", x.letters(), ROW);
        for (int n = ROW; n > 0; n--) {
            s.is("letters()", x.letters(), n);
            s.steps(x, ASK);
        }
        s.is("letters()", x.letters(), 0);
        x.step();
        x.lose(0);
        s.is("letters(), no fewer than 0", x.letters(), 0);
    }

    private static void letterEnds() {
        PolledHouses x = s.with(0, 1, 0);
        for (int p = 1; p <= 6; p++) {
            x.poll(0, 0, 1L);
        }
        s.letterIs(x, 0, ASK, 1, 0);
        s.letterIs(x, 17, ASK, 6, 2);
        s.crowd(x, ROW);
        s.letterIs(x, ROW - 1, ASK, 1, 0);
        s.letterIs(x, 17, ASK, 6, 2);
        PolledHouses y = s.endedWithLetters(DIFFERENT);
        for (int k = 0; k < 4; k++) {
            s.letterIs(y, k, ASK + k, 1, 0);
        }
    }

    private static void letterNone() {
        PolledHouses x = s.with(0, 1, 0);
        for (int what = -1; what <= 3; what++) {
            s.is("letter(0, " + what + "), an empty row", x.letter(0, what), BAD);
        }
        x.poll(0, 0, 1L);
        x.twice(2);
        x.lose(3);
        for (int k : new int[] {-1, 3, ROW - 1, ROW, LEAST, MOST}) {
            for (int what = 0; what < 3; what++) {
                s.is("letter(" + k + ", " + what + ")", x.letter(k, what), BAD);
            }
        }
        s.crowd(x, ROW);
        for (int k : new int[] {-1, ROW, LEAST, MOST}) {
            for (int what = 0; what < 3; what++) {
                s.is("letter(" + k + ", " + what + "), a full row", x.letter(k, what), BAD);
            }
        }
    }

    private static void letterOtherWhat() {
        PolledHouses x = s.with(0, 1, 0);
        x.poll(0, 0, 1L);
        for (int k = 0; k < 3; k++) {
            for (int what : new int[] {-1, 3, 4, LEAST, MOST, 256, 257, 258}) {
                s.is("letter(" + k + ", " + what + ")", x.letter(k, what), BAD);
            }
        }
        s.is("letter(3, 3)", x.letter(3, 3), BAD);
    }

    private static void giveUpOpen() {
        PolledHouses x = s.with(0, 1, 0);
        for (int p = 1; p <= 6; p++) {
            x.poll(0, 0, 1L);
        }
        for (int p : new int[] {6, 1}) {
            s.is("giveUp(" + p + ")", x.giveUp(p), true);
            s.is("result(" + p + ")", x.result(p), GIVEN_UP);
        }
        for (int p = 2; p <= 5; p++) {
            s.is("result(" + p + ")", x.result(p), 0);
        }
        s.is("letters() stay", x.letters(), 18);
        s.is("done()", x.done(), 0);
        s.is("disputes()", x.disputes(), 0);
        // With all sums and two copies, too.
        PolledHouses y = s.before(MENDED);
        s.toLastCopy(y, 0, 0);
        s.is("giveUp(1)", y.giveUp(1), true);
        s.steps(y, COPY);
        s.is("result(1)", y.result(1), GIVEN_UP);
        s.is("mends(0)", y.mends(0), 0);
    }

    private static void giveUpNoSuch() {
        PolledHouses x = s.with(0, 1, 0);
        s.is("giveUp(0), none yet", x.giveUp(0), false);
        s.is("giveUp(1), none yet", x.giveUp(1), false);
        s.is("poll(0, 0, 1)", x.poll(0, 0, 1L), 1);
        s.is("result(1)", x.result(1), 0);
        String before = Sentences.state(x);
        for (int p : new int[] {0, 2, -1, LEAST, MOST}) {
            s.is("giveUp(" + p + ")", x.giveUp(p), false);
        }
        s.unchanged(before, x);
    }

    private static void giveUpNotOpen() {
        for (int result = AGREED; result <= GIVEN_UP; result++) {
            PolledHouses x = s.ended(result);
            String before = Sentences.state(x);
            s.is("giveUp(1) after result " + result, x.giveUp(1), false);
            s.unchanged(before, x);
        }
        PolledHouses y = s.with(0, 1, 0);
        y.poll(0, 0, 1L);
        s.is("giveUp(1)", y.giveUp(1), true);
        s.is("giveUp(1) once more", y.giveUp(1), false);
    }

    private static void resultNoSuch() {
        PolledHouses x = s.with(0, 1, 0);
        s.is("result(1), none yet", x.result(1), BAD);
        s.is("result(0), none yet", x.result(0), BAD);
        for (int n = 1; n <= 8; n++) {
            s.is("poll(0, 0, 1)", x.poll(0, 0, 1L), n <= 6 ? n : FULL);
        }
        for (int p = 1; p <= 6; p++) {
            s.is("result(" + p + ")", x.result(p), 0);
        }
        for (int p : new int[] {0, 7, 8, -1, 512, 513, LEAST, MOST}) {
            s.is("result(" + p + ")", x.result(p), BAD);
        }
    }

    private static void closeEach() {
        for (int h = 0; h < 3; h++) {
            PolledHouses x = s.with(0, 1, 0);
            s.is("close(" + h + ")", x.close(h), true);
            for (int g = 0; g < 3; g++) {
                s.is("close(" + g + ")", x.close(g), g != h);
            }
            s.is("deposit(1, 1, 0)", x.deposit(1, 1, 0), NO);
        }
    }

    private static void closeNone() {
        PolledHouses x = s.with(0, 1, 0);
        for (int h : Sentences.NO_HOUSE) {
            s.is("close(" + h + ")", x.close(h), false);
        }
        for (int h = 0; h < 3; h++) {
            s.isOpen(x, h);
        }
        s.is("deposit(1, 1, 0)", x.deposit(1, 1, 0), 4);
    }

    private static void closeClosed() {
        for (int h = 0; h < 3; h++) {
            PolledHouses x = s.with(0, 1, 0);
            x.close(h);
            s.is("close(" + h + ") once more", x.close(h), false);
            s.is("close(" + h + ") a third time", x.close(h), false);
            s.is("open(" + h + "), once is enough", x.open(h), true);
            s.isOpen(x, h);
            s.is("close(" + h + ")", x.close(h), true);
        }
    }

    private static void openEach() {
        for (int h = 0; h < 3; h++) {
            PolledHouses x = s.with(0, 1, 0);
            for (int g = 0; g < 3; g++) {
                x.close(g);
            }
            s.is("open(" + h + ")", x.open(h), true);
            for (int g = 0; g < 3; g++) {
                s.is("open(" + g + ")", x.open(g), g != h);
            }
            s.is("deposit(1, 1, 0)", x.deposit(1, 1, 0), 4);
        }
    }

    private static void openNone() {
        PolledHouses x = s.with(0, 1, 0);
        for (int h = 0; h < 3; h++) {
            x.close(h);
        }
        for (int h : Sentences.NO_HOUSE) {
            s.is("open(" + h + ")", x.open(h), false);
        }
        for (int h = 0; h < 3; h++) {
            s.isClosed(x, h);
        }
    }

    private static void openOpen() {
        for (int h = 0; h < 3; h++) {
            PolledHouses x = s.with(0, 1, 0);
            s.is("open(" + h + "), open at first", x.open(h), false);
            x.close(h);
            x.open(h);
            s.is("open(" + h + ") once more", x.open(h), false);
            s.is("close(" + h + "), once is enough", x.close(h), true);
            s.isClosed(x, h);
        }
    }

    private static void roundNumber() {
        PolledHouses x = new PolledHouses();
        s.is("round() with no deposit", x.round(), 1);
        x.deposit(0, 1, 0);
        for (int n = 1; n <= 30; n++) {
            s.is("round()", x.round(), n);
            s.agree(x, 0, 0);
        }
        s.is("round()", x.round(), 31);
    }

    private static void doneNoneToAllButOne() {
        PolledHouses x = new PolledHouses();
        s.is("done() with no deposit", x.done(), 0);
        x.deposit(0, 16, 0);
        s.is("done()", x.done(), 0);
        for (int part = 0; part < 7; part++) {
            s.agree(x, 0, part);
            s.is("done()", x.done(), part + 1);
            s.agree(x, 0, part);
            s.is("done(), a part counts once", x.done(), part + 1);
        }
        s.is("round()", x.round(), 1);
        s.agree(x, 0, 7);
        s.is("done(), all and so none", x.done(), 0);
        s.is("round()", x.round(), 2);
        // A deposit that comes is not done.
        s.agree(x, 0, 7);
        x.deposit(5, 16, 0);
        s.is("done()", x.done(), 1);
    }

    private static void partsNoneToAll() {
        PolledHouses x = new PolledHouses();
        s.is("parts() with no deposit", x.parts(), 0);
        int[] blocks = {1, 7, 8, 9, 16, 2};
        int[] want = {1, 8, 16, 24, 32, 34};
        for (int d = 0; d < 6; d++) {
            s.is("deposit(" + d + ", 17, 0)", x.deposit(d, 17, 0), BAD);
            x.close(d % 3);
            s.is("deposit(" + d + ", 1, 0)", x.deposit(d, 1, 0), NO);
            x.open(d % 3);
            s.is("parts(), refused ones are none", x.parts(), d == 0 ? 0 : want[d - 1]);
            x.deposit(d, blocks[d], 0);
            s.is("parts()", x.parts(), want[d]);
        }
        s.agree(x, 0, 0);
        s.is("parts(), a part that is done stays", x.parts(), 34);
        PolledHouses y = new PolledHouses();
        for (int d = 0; d < 6; d++) {
            y.deposit(d, 16, 0);
        }
        s.is("parts(), all that can be", y.parts(), 48);
    }

    private static void mendsByBlocks() {
        for (int h = 0; h < 3; h++) {
            PolledHouses x = s.with(0, 16, 0);
            int other = (h + 1) % 3;
            s.is("mends(h)", x.mends(h), 0);
            // All bytes of one block are one.
            for (int i = 0; i < 4; i++) {
                x.damage(h, 0, i, 255);
            }
            s.decide(x, 0, 0, MENDED);
            s.is("mends(h)", x.mends(h), 1);
            // Two blocks of a part are two.
            x.damage(h, 0, 31, 1);
            x.damage(h, 0, 63, 1);
            s.decide(x, 0, 7, MENDED);
            s.is("mends(h)", x.mends(h), 3);
            // The same block once more counts once more; another house's counts there.
            x.damage(h, 0, 0, 255);
            x.damage(other, 0, 32, 255);
            s.decide(x, 0, 0, MENDED);
            s.is("mends(h)", x.mends(h), 4);
            s.is("mends(other)", x.mends(other), 1);
            s.is("mends(third)", x.mends((h + 2) % 3), 0);
            s.agree(x, 0, 0);
            s.is("mends(h), agreed", x.mends(h), 4);
        }
    }

    private static void mendsNone() {
        PolledHouses x = s.ended(MENDED);
        for (int h : Sentences.NO_HOUSE) {
            s.is("mends(" + h + ")", x.mends(h), BAD);
        }
        s.is("mends(0)", x.mends(0), 1);
        s.is("mends(1)", x.mends(1), 0);
        s.is("mends(2)", x.mends(2), 0);
    }

    private static void disputesOnlyThree() {
        s.is("disputes() of a new object", new PolledHouses().disputes(), 0);
        for (int result = AGREED; result <= GIVEN_UP; result++) {
            s.is("disputes() after result " + result, s.ended(result).disputes(), result == DIFFERENT ? 1 : 0);
        }
        PolledHouses x = s.with(0, 9, 0);
        for (int i : new int[] {0, 32}) {
            x.damage(0, 0, i, 1);
            x.damage(1, 0, i, 2);
        }
        for (int n = 1; n <= 10; n++) {
            s.decide(x, 0, 0, DIFFERENT);
            s.is("disputes(), one for both blocks", x.disputes(), n);
        }
        // They stay when the bytes are whole again.
        for (int i : new int[] {0, 32}) {
            x.damage(0, 0, i, 1);
            x.damage(1, 0, i, 2);
        }
        s.agree(x, 0, 0);
        s.is("disputes()", x.disputes(), 10);
    }
}
