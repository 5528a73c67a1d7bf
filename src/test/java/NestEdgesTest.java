/** The edges that part 3 of the terms and promises 36 to 38 name: NESTS, UP, DOWN. */
public final class NestEdgesTest {
    private static final int BAD = -1, STATE = -4, NONE = -9;
    private static final int NOTHING = 1;
    private static final int FULL_CELL = 100000;

    public static void main(String[] args) {
        fineCells();
        bottomAndWaterOfTheCellBeneath();
        noMoreThan8By6();
        laidAnewIsABoardAnew();
        whatWasThereIsMissingFirst();
        nothingIsMissingIfRefused();
        inItselfAtWhateverDepth();
        upIsCutDown();
        upIsNoughtAtLeast();
        upIs100000AtMost();
        upMarks();
        upTellsAllWaterBeneath();
        downByTheMark();
        downOfNone();
        downToNoughtExactly();
        downTakesFromTheNextRound();
        downTakesOnlyAsFarAsAbove0();
        downInThisOrder();
        downLacksRest();
        downTo100000Exactly();
        downOver100000IsRest();
        downBelowComesAheadOfOver();
        downTellsAllWaterOfTheNest();
        nestIsABoard();
        Due.end();
    }

    private static void isNow(SeaCells x, int beneath, int rest, int... fine) {
        Due.told(x, x.cell(0, 1, 1), beneath);
        Due.told(x, x.mark(1, 2), rest);
        for (int i = 0; i < 4; i++) Due.told(x, x.cell(1, i, 1), fine[i]);
    }

    /** DOWN, the WATER beneath 10 then being so much. */
    private static void down(int beneath, int more, int rest, int[] fine, int... then) {
        SeaCells x = Seas.nested(10, fine);
        x.water(0, 1, beneath);
        Due.told(x, x.down(1), more);
        isNow(x, beneath, rest, then);
    }

    private static int[] four(int... fine) {
        return fine;
    }

    private static void fineCells() {
        Due.says("has twice as many CELLS each way as those it lies on, four on each");
        for (int w = 1; w <= 4; w++) {
            for (int h = 1; h <= 3; h++) {
                SeaCells x = new SeaCells();
                x.board(0, 0, 5, 4);
                Due.is(x.nest(1, 0, 5 - w, 4 - h, w, h), 4 * w * h);
                Due.told(x, x.told(1, 0), 2);
                Due.told(x, x.told(1, 1), 2 * w);
                Due.told(x, x.told(1, 2), 2 * h);
            }
        }
    }

    private static void bottomAndWaterOfTheCellBeneath() {
        Due.says("As it is laid each fine CELL has BOTTOM and WATER of the CELL beneath, and MARK of each CELL beneath is"
                + " its WATER, REST 0");
        SeaCells x = new SeaCells();
        x.board(0, 0, 3, 3);
        for (int c = 0; c < 9; c++) {
            x.bottom(0, c, c % 2 == 0 ? 1000 - c : -1000 + c);
            x.water(0, c, 100000 - c);
            x.spill(0, c, 0, 9);
        }
        Due.is(x.nest(1, 0, 1, 1, 2, 2), 16);
        for (int c = 0; c < 16; c++) {
            int beneath = (1 + c / 8) * 3 + 1 + c % 4 / 2;
            Due.told(x, x.cell(1, c, 0), beneath % 2 == 0 ? 1000 - beneath : -1000 + beneath);
            Due.told(x, x.cell(1, c, 1), 100000 - beneath);
            Due.told(x, x.cell(1, c, 3), 0);
        }
        Due.told(x, x.mark(1, 2), 0);
        // MARK is its WATER: neither way is there anything to move
        Due.told(x, x.down(1), 0);
        Due.told(x, x.up(1), 0);
        Due.told(x, x.mark(1, 2), 0);
    }

    private static void noMoreThan8By6() {
        Due.says("nest: BAD: also .. more than 8 by 6 fine ones");
        SeaCells x = new SeaCells();
        x.board(0, 0, 8, 6);
        Due.is(x.nest(1, 0, 4, 3, 4, 3), 48);
        Due.is(x.nest(1, 0, 0, 0, 5, 3), BAD);
        Due.is(x.nest(1, 0, 0, 0, 4, 4), BAD);
        Due.is(x.nest(1, 0, 0, 0, 8, 6), BAD);
        Due.told(x, x.told(1, 1), 8);
        Due.told(x, x.told(1, 2), 6);
        // the least one has 2 by 2
        Due.is(x.nest(1, 0, 7, 5, 1, 1), 4);
    }

    private static void laidAnewIsABoardAnew() {
        Due.says("nest: A NEST in place n lies on w by h CELLS of BOARD b");
        SeaCells x = Seas.nested(100, 100, 100, 100, 100);
        x.law(1, 1, 2);
        x.wind(1, 50, 50);
        x.gate(1, 0, true);
        x.river(1, 0, 9);
        x.post(1, 0);
        x.spill(1, 0, 0, 9);
        x.step(1, 3);
        x.up(1);
        x.water(1, 0, 3);
        x.up(1);
        Due.is(x.nest(1, 0, 0, 0, 1, 1), 4);
        int[] due = {2, 2, 2, 0, 0, 0, 0, 0, 0, 0, 4};
        for (int what = 0; what <= 10; what++) Due.told(x, x.told(1, what), due[what]);
        Due.told(x, x.mark(1, 2), 0);
        Due.is(x.gate(1, 0, false), 0);
        Due.is(x.post(1, 0), 1);
        Due.is(x.river(1, 0, 0), 1);
        x.water(1, 0, 80);
        x.step(1, 1);
        Due.told(x, x.flow(1, 0), 36);
        Due.told(x, x.flow(1, 1), 36);
    }

    private static void whatWasThereIsMissingFirst() {
        Due.says("What was in n is missing first, as by drop(), if nothing is refused");
        SeaCells x = new SeaCells();
        x.board(0, 0, 4, 3);
        x.board(1, 1, 4, 3);
        x.nest(2, 1, 0, 0, 2, 1);
        x.nest(3, 2, 0, 0, 1, 1);
        for (int b = 0; b < 4; b++) {
            x.boat(b, b, 0, 1);
            x.gauge(b, b, 0);
        }
        Due.is(x.nest(1, 0, 0, 0, 1, 1), 4);
        Due.is(x.count(2), 2);
        Due.finds(x, () -> x.told(2, 0), NOTHING);
        Due.finds(x, () -> x.told(3, 0), NOTHING);
        int[] boats = {0, NONE, NONE, NONE};
        for (int k = 0; k < 4; k++) Due.is(x.where(k), boats[k]);
        Due.is(x.count(4), 1);
    }

    private static void nothingIsMissingIfRefused() {
        Due.says("What was in n is missing first .. if nothing is refused");
        SeaCells x = new SeaCells();
        x.board(0, 0, 4, 3);
        x.nest(1, 0, 0, 0, 1, 1);
        x.boat(0, 0, 3, 1);
        long digest = x.digest();
        Due.is(x.nest(0, 1, 0, 0, 1, 1), STATE);
        Due.is(x.nest(0, 5, 0, 0, 1, 1), SeaCells.FINDING);
        Due.is(x.nest(0, 1, 2, 0, 1, 1), BAD);
        Due.is(x.digest(), digest);
        Due.is(x.where(0), 3);
    }

    private static void inItselfAtWhateverDepth() {
        Due.says("STATE: b lies in n, at whatever depth. (STATE behind NOTHING.)");
        SeaCells x = new SeaCells();
        x.board(5, 0, 2, 1);
        for (int n = 4; n >= 0; n--) Due.is(x.nest(n, n + 1, 0, 0, 1, 1), 4);
        for (int n = 1; n <= 5; n++) {
            for (int b = 0; b < n; b++) Due.is(x.nest(n, b, 0, 0, 1, 1), STATE);
        }
        Due.is(x.count(2), 6);
        // not the other way round: what lies in b may be laid anew in it
        Due.is(x.nest(0, 3, 0, 0, 1, 1), 4);
        Due.is(x.nest(3, 5, 0, 0, 1, 1), 4);
        Due.is(x.count(2), 3);
        // nor is one in it that lay in it once
        Due.is(x.nest(5, 4, 0, 0, 1, 1), STATE);
        x.board(4, 0, 2, 1);
        Due.is(x.nest(5, 4, 0, 0, 1, 1), 4);
    }

    private static void upIsCutDown() {
        Due.says("UP: .. the sum of its four fine ones and its REST, by 4, cut down; what is over is its REST");
        int[][] sums = {{0, 0, 0}, {1, 0, 1}, {3, 0, 3}, {4, 1, 0}, {5, 1, 1}, {7, 1, 3}, {8, 2, 0}};
        for (int[] k : sums) {
            SeaCells x = Seas.nested(10, k[0], 0, 0, 0);
            Due.told(x, x.up(1), k[1] - 10);
            isNow(x, k[1], k[2], k[0], 0, 0, 0);
            // REST counts with the next one
            x.water(1, 3, 3);
            Due.told(x, x.up(1), (k[0] + k[2] + 3) / 4 - k[1]);
            Due.told(x, x.mark(1, 2), (k[0] + k[2] + 3) % 4);
        }
    }

    private static void upIsNoughtAtLeast() {
        Due.says("(WATER is 0 at least ..; REST is the sum less four times it)");
        // a REST of -5 and fine ones with so much
        int[][] fine = {{0, 0, -5}, {4, 0, -1}, {5, 0, 0}, {6, 0, 1}, {9, 1, 0}};
        for (int[] k : fine) {
            SeaCells x = Seas.nested(10, 9, 9, 9, 8);
            x.water(0, 1, 0);
            Due.told(x, x.down(1), -35);
            isNow(x, 0, -5, 0, 0, 0, 0);
            x.water(1, 2, k[0]);
            Due.told(x, x.up(1), k[1]);
            isNow(x, k[1], k[2], 0, 0, k[0], 0);
        }
    }

    private static void upIs100000AtMost() {
        Due.says("(WATER is .. 100000 at most; REST is the sum less four times it)");
        // a REST of 6, and fine ones that lack so much of all there can be
        int[][] lacks = {{0, FULL_CELL, 6}, {5, FULL_CELL, 1}, {6, FULL_CELL, 0}, {7, FULL_CELL - 1, 3}};
        for (int[] k : lacks) {
            SeaCells x = Seas.nested(10, FULL_CELL, FULL_CELL, FULL_CELL, FULL_CELL - 2);
            x.water(0, 1, 12);
            Due.told(x, x.down(1), 2);
            isNow(x, 12, 6, FULL_CELL, FULL_CELL, FULL_CELL, FULL_CELL);
            x.water(1, 0, FULL_CELL - k[0]);
            Due.told(x, x.up(1), k[1] - 12);
            isNow(x, k[1], k[2], FULL_CELL - k[0], FULL_CELL, FULL_CELL, FULL_CELL);
        }
    }

    private static void upMarks() {
        Due.says("MARK is that WATER then");
        SeaCells x = Seas.nested(10, 7, 0, 0, 0);
        x.up(1);
        Due.told(x, x.down(1), 0);
        isNow(x, 1, 3, 7, 0, 0, 0);
        x.water(0, 1, 3);
        Due.told(x, x.down(1), 8);
        isNow(x, 3, 3, 9, 2, 2, 2);
    }

    private static void upTellsAllWaterBeneath() {
        Due.says("UP: by how much all WATER beneath is more than it was");
        SeaCells x = new SeaCells();
        x.board(0, 0, 3, 2);
        for (int c = 0; c < 6; c++) x.water(0, c, 100);
        x.nest(1, 0, 1, 0, 2, 2);
        // one more, two less, as it was, and ten less
        x.water(1, 0, 104);
        x.water(1, 2, 92);
        x.water(1, 8, 103);
        x.water(1, 10, 60);
        Due.told(x, x.up(1), 1 - 2 + 0 - 10);
        int[] due = {100, 101, 98, 100, 100, 90};
        for (int c = 0; c < 6; c++) Due.told(x, x.cell(0, c, 1), due[c]);
        Due.told(x, x.mark(1, 2), 3);
    }

    private static void downByTheMark() {
        Due.says("DOWN: D is by how much the WATER of a CELL beneath is above its MARK (below 0: less)");
        down(10, 0, 0, four(1, 2, 30, 5), 1, 2, 30, 5);
        down(11, 4, 0, four(1, 2, 30, 5), 2, 3, 31, 6);
        down(9, -4, 0, four(1, 2, 30, 5), 0, 1, 29, 4);
        // MARK is the WATER then
        SeaCells x = Seas.nested(10, 20, 20, 20, 20);
        x.water(0, 1, 15);
        Due.told(x, x.down(1), 20);
        Due.told(x, x.down(1), 0);
        x.water(0, 1, 14);
        Due.told(x, x.down(1), -4);
        isNow(x, 14, 0, 24, 24, 24, 24);
    }

    private static void downOfNone() {
        Due.says("each of its four fine CELLS has D more (0: nothing changes)");
        SeaCells x = Seas.nested(10, 0, 0, 100000, 0);
        Due.told(x, x.down(1), 0);
        isNow(x, 10, 0, 0, 0, 100000, 0);
    }

    private static void downToNoughtExactly() {
        Due.says("one that is below 0 is 0, and what lacks is taken from the next ones");
        down(7, -12, 0, four(3, 3, 3, 3), 0, 0, 0, 0);
        down(7, -12, 0, four(2, 4, 3, 3), 0, 0, 0, 0);
        down(7, -12, 0, four(2, 3, 3, 4), 0, 0, 0, 0);
        down(7, -11, -1, four(2, 3, 3, 3), 0, 0, 0, 0);
    }

    private static void downTakesFromTheNextRound() {
        Due.says("what lacks is taken from the next ones, round, as far as they are above 0");
        down(0, -40, 0, four(9, 20, 20, 20), 0, 9, 10, 10);
        down(0, -40, 0, four(20, 9, 20, 20), 10, 0, 9, 10);
        down(0, -40, 0, four(20, 20, 9, 20), 10, 10, 0, 9);
        down(0, -40, 0, four(20, 20, 20, 9), 9, 10, 10, 0);
    }

    private static void downTakesOnlyAsFarAsAbove0() {
        Due.says("is taken from the next ones, round, as far as they are above 0");
        down(0, -40, 0, four(0, 16, 13, 20), 0, 0, 0, 9);
        down(0, -40, 0, four(16, 0, 13, 20), 6, 0, 0, 3);
        down(0, -40, 0, four(13, 16, 20, 0), 0, 0, 9, 0);
        // the next one is at 0, or below it: the one behind it gives
        down(0, -40, 0, four(9, 10, 15, 20), 0, 0, 4, 10);
        down(0, -40, 0, four(9, 9, 15, 20), 0, 0, 3, 10);
    }

    private static void downInThisOrder() {
        Due.says("in this order: (x, y), (x + 1, y), (x, y + 1), (x + 1, y + 1) of the fine ones");
        // two lack 5 each, and each takes from the ones behind it
        down(0, -36, -4, four(5, 13, 5, 13), 0, 0, 0, 0);
        down(0, -40, 0, four(5, 30, 5, 13), 0, 13, 0, 0);
        down(0, -40, 0, four(5, 13, 5, 30), 0, 0, 0, 13);
        down(0, -40, 0, four(16, 5, 16, 5), 1, 0, 1, 0);
        down(0, -40, 0, four(20, 5, 12, 5), 2, 0, 0, 0);
        // on a NEST of more CELLS the four are beside and above each other
        SeaCells x = new SeaCells();
        x.board(0, 0, 3, 2);
        for (int c = 0; c < 6; c++) x.water(0, c, 10);
        x.nest(1, 0, 0, 0, 3, 2);
        int[] fine = {2, 3, 8, 9};
        int[] have = {1, 6, 6, 6};
        for (int i = 0; i < 4; i++) x.water(1, fine[i], have[i]);
        x.water(0, 1, 8);
        Due.told(x, x.down(1), -8);
        int[] due = {0, 3, 4, 4};
        for (int i = 0; i < 4; i++) Due.told(x, x.cell(1, fine[i], 1), due[i]);
        for (int c : new int[] {1, 4, 7, 10, 14, 15, 20, 21}) Due.told(x, x.cell(1, c, 1), 10);
    }

    private static void downLacksRest() {
        Due.says("what still lacks REST is less");
        down(0, -39, -1, four(9, 10, 10, 10), 0, 0, 0, 0);
        down(0, 0, -40, four(0, 0, 0, 0), 0, 0, 0, 0);
        SeaCells x = Seas.nested(100000, 0, 0, 0, 1);
        x.water(0, 1, 0);
        Due.told(x, x.down(1), -1);
        isNow(x, 0, -399999, 0, 0, 0, 0);
        // once more is so much more less
        x.water(0, 1, 5);
        Due.told(x, x.down(1), 20);
        x.water(0, 1, 0);
        x.water(1, 0, 0);
        Due.told(x, x.down(1), -15);
        isNow(x, 0, -399999 - 5, 0, 0, 0, 0);
    }

    private static void downTo100000Exactly() {
        Due.says("one that is above 100000 is 100000, and REST is so much more");
        down(11, 4, 0, four(99999, 99999, 99999, 99999), FULL_CELL, FULL_CELL, FULL_CELL, FULL_CELL);
        down(11, 3, 1, four(99999, 100000, 99999, 99999), FULL_CELL, FULL_CELL, FULL_CELL, FULL_CELL);
        down(10, 0, 0, four(100000, 100000, 100000, 100000), FULL_CELL, FULL_CELL, FULL_CELL, FULL_CELL);
    }

    private static void downOver100000IsRest() {
        Due.says("one that is above 100000 is 100000, and REST is so much more");
        down(15, 5, 15, four(100000, 100000, 7, 100000), FULL_CELL, FULL_CELL, 12, FULL_CELL);
        down(15, 17, 3, four(1, 2, 3, 99998), 6, 7, 8, FULL_CELL);
        SeaCells x = Seas.nested(0, 100000, 100000, 100000, 100000);
        x.water(0, 1, 100000);
        Due.told(x, x.down(1), 0);
        isNow(x, 100000, 400000, FULL_CELL, FULL_CELL, FULL_CELL, FULL_CELL);
    }

    private static void downBelowComesAheadOfOver() {
        Due.says("one that is below 0 is 0 ..; then one that is above 100000 is 100000");
        // less leads none over, more leads none below: what was over once is REST, and does not fill what lacks
        SeaCells x = Seas.nested(10, 100000, 0, 0, 0);
        x.water(0, 1, 13);
        x.down(1);
        isNow(x, 13, 3, FULL_CELL, 3, 3, 3);
        x.water(0, 1, 9);
        Due.told(x, x.down(1), -16);
        isNow(x, 9, 3, 99993, 0, 0, 0);
    }

    private static void downTellsAllWaterOfTheNest() {
        Due.says("DOWN: by how much all WATER of the NEST is more than it was");
        SeaCells x = new SeaCells();
        x.board(0, 0, 2, 1);
        x.water(0, 0, 5);
        x.water(0, 1, 5);
        x.nest(1, 0, 0, 0, 2, 1);
        x.water(0, 0, 9);
        x.water(0, 1, 2);
        Due.told(x, x.down(1), 16 - 12);
        Due.told(x, x.told(1, 4), 4 * 9 + 4 * 2);
    }

    private static void nestIsABoard() {
        Due.says("2 NEST (a BOARD, in another one)");
        SeaCells x = Seas.nested(50, 50, 50, 50, 50);
        x.boat(0, 1, 3, 1);
        x.gauge(0, 1, 3);
        x.water(1, 3, 100);
        Due.is(x.river(1, 0, 7), 1);
        Due.is(x.step(1, 1), 1);
        // 25 less 2 each to the left and below
        Due.told(x, x.reading(0, 0), 54);
        Due.is(x.where(0), 2);
        Due.told(x, x.told(1, 5), 7);
        // what is beneath does not step with it
        Due.told(x, x.told(0, 3), 0);
        Due.told(x, x.cell(0, 1, 1), 50);
        // and a NEST in the NEST goes up to it
        Due.is(x.nest(2, 1, 0, 0, 1, 1), 4);
        x.water(2, 0, 1000);
        Due.is(x.up(2), 1);
        Due.told(x, x.cell(0, 1, 1), 50);
        Due.is(x.drop(0), 1);
        Due.is(x.count(2), 0);
    }
}
