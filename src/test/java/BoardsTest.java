/** Promises 11 to 22 and 24 to 27: BOARDS, what is set on them, what they tell, kept and mirrored. */
public final class BoardsTest {
    private static final int BAD = -1, FULL = -2, STATE = -4, NONE = -9;
    private static final int NOTHING = 1, BEYOND = 2, UNLIKE = 3;

    public static void main(String[] args) {
        board();
        boardAnew();
        drop();
        bottomAndWater();
        spill();
        cell();
        flow();
        gate();
        law();
        wind();
        river();
        tide();
        told();
        mark();
        markOfNests();
        keep();
        keepNests();
        mirror();
        mirrorRefused();
        Due.end();
    }

    private static void board() {
        SeaCells x = new SeaCells();
        Due.is(x.board(0, 0, 2, 1), 2);
        Due.is(x.board(5, 1, 8, 6), 48);
        Due.is(x.board(3, 3, 5, 3), 15);
        Due.is(x.count(2), 3);
        Due.told(x, x.told(3, 0), 3);
        Due.told(x, x.told(3, 1), 5);
        Due.told(x, x.told(3, 2), 3);
        int[][] bad = {{-1, 0, 3, 3}, {6, 0, 3, 3}, {0, -1, 3, 3}, {0, 2, 3, 3}, {0, 4, 3, 3}, {0, 0, 1, 3},
            {0, 0, 9, 3}, {0, 0, 3, 0}, {0, 0, 3, 7}};
        for (int[] k : bad) Due.refused(x, () -> x.board(k[0], k[1], k[2], k[3]), BAD);
        Due.is(x.count(2), 3);
    }

    private static void boardAnew() {
        SeaCells x = new SeaCells();
        x.board(0, 1, 4, 3);
        x.bottom(0, 0, 1);
        x.water(0, 1, 700);
        x.spill(0, 1, 2, 7);
        x.gate(0, 0, true);
        x.law(0, 8, 2);
        x.wind(0, 5, 5);
        x.river(0, 2, 5);
        x.post(0, 0);
        x.row(0, 1);
        x.tide(0, 0, 5);
        x.step(0, 3);
        x.boat(0, 0, 1, 1);
        x.boat(1, 1, 1, 1);
        x.gauge(7, 0, 1);
        x.nest(2, 0, 1, 1, 1, 1);
        x.nest(3, 2, 0, 0, 1, 1);
        x.board(4, 0, 4, 3);
        x.boat(2, 4, 1, 1);
        Due.is(x.board(0, 1, 4, 3), 12);
        Due.is(x.count(2), 2);
        Due.is(x.count(3), 1);
        Due.is(x.count(4), 0);
        Due.is(x.where(0), NONE);
        Due.is(x.where(2), 1);
        int[] fresh = {1, 4, 3, 0, 0, 0, 0, 0, 0, 0, 12};
        for (int what = 0; what <= 10; what++) Due.told(x, x.told(0, what), fresh[what]);
        Due.told(x, x.cell(0, 0, 0), 0);
        Due.is(x.mark(0, 1), NONE);
        Due.is(x.gate(0, 0, false), 0);
        Due.is(x.river(0, 0, 0), 1);
        Due.is(x.post(0, 0), 1);
        Due.told(x, x.flow(0, 2), 0);
        // PULL 4, DRAG 10, no WIND: 100 by 8 times 4 is 50, less 5
        x.water(0, 0, 100);
        x.step(0, 1);
        Due.told(x, x.flow(0, 0), 45);
        Due.told(x, x.flow(0, 1), 45);
    }

    private static void drop() {
        SeaCells x = new SeaCells();
        Due.refused(x, () -> x.drop(-1), BAD);
        Due.refused(x, () -> x.drop(6), BAD);
        Due.finds(x, () -> x.drop(0), NOTHING);
        x.board(5, 0, 8, 6);
        x.nest(0, 5, 0, 0, 4, 3);
        x.nest(4, 0, 0, 0, 2, 2);
        x.nest(1, 4, 0, 0, 1, 1);
        x.nest(2, 5, 0, 0, 1, 1);
        x.board(3, 0, 2, 1);
        x.boat(0, 1, 0, 1);
        x.boat(1, 5, 0, 1);
        x.gauge(0, 4, 0);
        x.gauge(1, 3, 0);
        Due.is(x.drop(0), 1);
        Due.is(x.count(2), 3);
        Due.finds(x, () -> x.told(0, 0), NOTHING);
        Due.finds(x, () -> x.told(4, 0), NOTHING);
        Due.finds(x, () -> x.told(1, 0), NOTHING);
        Due.told(x, x.told(2, 0), 2);
        Due.is(x.where(0), NONE);
        Due.is(x.where(1), 0);
        Due.is(x.count(4), 1);
        Due.is(x.drop(5), 1);
        Due.is(x.count(2), 1);
        Due.is(x.count(3), 0);
        Due.finds(x, () -> x.drop(5), NOTHING);
    }

    private static void bottomAndWater() {
        SeaCells x = new SeaCells();
        Due.finds(x, () -> x.bottom(0, 0, 0), NOTHING);
        Due.finds(x, () -> x.water(0, 0, 0), NOTHING);
        Due.refused(x, () -> x.bottom(0, 0, 1001), BAD);
        Due.refused(x, () -> x.water(0, 0, -1), BAD);
        x.board(0, 0, 3, 2);
        Due.told(x, x.bottom(0, 5, 1000), 0);
        Due.told(x, x.bottom(0, 5, -1000), 1000);
        Due.told(x, x.bottom(0, 5, 3), -1000);
        Due.is(x.water(0, 5, 100000), 0);
        Due.is(x.water(0, 5, 0), 100000);
        Due.is(x.water(0, 0, 7), 0);
        Due.is(x.water(0, 0, 8), 7);
        Due.is(x.asked(), -1000);
        Due.finds(x, () -> x.bottom(0, 6, 0), BEYOND);
        Due.finds(x, () -> x.bottom(0, -1, 0), BEYOND);
        Due.finds(x, () -> x.water(0, 6, 0), BEYOND);
        Due.finds(x, () -> x.water(0, -1, 0), BEYOND);
        Due.refused(x, () -> x.bottom(0, 6, 1001), BAD);
        Due.refused(x, () -> x.bottom(0, 0, -1001), BAD);
        Due.refused(x, () -> x.bottom(6, 0, 0), BAD);
        Due.refused(x, () -> x.bottom(-1, 0, 0), BAD);
        Due.refused(x, () -> x.water(0, 6, 100001), BAD);
        Due.refused(x, () -> x.water(0, 0, -1), BAD);
        Due.refused(x, () -> x.water(6, 0, 0), BAD);
        Due.refused(x, () -> x.water(-1, 0, 0), BAD);
    }

    private static void spill() {
        SeaCells x = new SeaCells();
        Due.finds(x, () -> x.spill(0, 0, 0, 0), NOTHING);
        Due.refused(x, () -> x.spill(0, 0, 3, 0), BAD);
        x.board(0, 0, 8, 6);
        Due.is(x.spill(0, 47, 0, 100000), 0);
        Due.is(x.spill(0, 47, 1, 5), 0);
        Due.is(x.spill(0, 47, 2, 6), 0);
        Due.is(x.spill(0, 0, 1, 7), 0);
        Due.is(x.spill(0, 47, 0, 1), 100000);
        Due.is(x.spill(0, 47, 1, 1), 5);
        Due.is(x.spill(0, 47, 2, 1), 6);
        Due.is(x.spill(0, 0, 1, 0), 7);
        Due.finds(x, () -> x.spill(0, 48, 0, 0), BEYOND);
        Due.finds(x, () -> x.spill(0, -1, 0, 0), BEYOND);
        int[][] bad = {{-1, 0, 0, 0}, {6, 0, 0, 0}, {0, 48, -1, 0}, {0, 0, 3, 0}, {0, 0, 0, -1}, {0, 0, 0, 100001}};
        for (int[] k : bad) Due.refused(x, () -> x.spill(k[0], k[1], k[2], k[3]), BAD);
    }

    private static void cell() {
        SeaCells x = new SeaCells();
        Due.finds(x, () -> x.cell(0, 0, 5), NOTHING);
        Due.refused(x, () -> x.cell(0, 0, 6), BAD);
        x.board(0, 0, 3, 2);
        x.bottom(0, 4, -30);
        x.water(0, 4, 100);
        for (int k = 0; k < 3; k++) x.spill(0, 4, k, 11 * (k + 1));
        int[] due = {-30, 100, 70, 11, 22, 33};
        for (int what = 0; what < 6; what++) Due.told(x, x.cell(0, 4, what), due[what]);
        for (int what = 0; what < 6; what++) Due.told(x, x.cell(0, 3, what), 0);
        Due.finds(x, () -> x.cell(0, 6, 0), BEYOND);
        Due.finds(x, () -> x.cell(0, -1, 0), BEYOND);
        Due.refused(x, () -> x.cell(0, 6, 6), BAD);
        Due.refused(x, () -> x.cell(0, 0, -1), BAD);
        Due.refused(x, () -> x.cell(6, 0, 0), BAD);
        Due.refused(x, () -> x.cell(-1, 0, 0), BAD);
    }

    /** The numbers of all SIDES of a BOARD of 3 by 2. */
    private static boolean isSide(int side) {
        return side == 0 || side == 1 || side == 2 || side == 3 || side == 5 || side == 6 || side == 8;
    }

    private static void flow() {
        SeaCells x = new SeaCells();
        Due.finds(x, () -> x.flow(0, 0), NOTHING);
        x.board(0, 0, 3, 2);
        for (int side = -2; side < 14; side++) {
            int s = side;
            if (isSide(side)) Due.told(x, x.flow(0, side), 0);
            else Due.finds(x, () -> x.flow(0, s), BEYOND);
        }
        Due.finds(x, () -> x.flow(0, Integer.MIN_VALUE), BEYOND);
        Due.finds(x, () -> x.flow(0, Integer.MAX_VALUE), BEYOND);
        Due.refused(x, () -> x.flow(6, 0), BAD);
        Due.refused(x, () -> x.flow(-1, 0), BAD);
        // away from the CELL it is above 0: CELL 4 is in the middle above
        x.water(0, 4, 80);
        x.step(0, 1);
        // 36 three ways is more than there is: 36 times 80 by 108
        int[][] due = {{8, 26}, {6, -26}, {3, -26}, {0, 0}, {1, 0}, {2, 0}, {5, 0}};
        for (int[] k : due) Due.told(x, x.flow(0, k[0]), k[1]);
    }

    private static void gate() {
        SeaCells x = new SeaCells();
        Due.finds(x, () -> x.gate(0, 0, true), NOTHING);
        x.board(0, 0, 3, 2);
        for (int side = -2; side < 14; side++) {
            int s = side;
            if (isSide(side)) Due.is(x.gate(0, side, false), 0);
            else Due.finds(x, () -> x.gate(0, s, true), BEYOND);
        }
        Due.refused(x, () -> x.gate(6, 0, true), BAD);
        Due.refused(x, () -> x.gate(-1, 0, true), BAD);
        x.water(0, 0, 100);
        x.step(0, 1);
        Due.is(x.gate(0, 0, true), 0);
        Due.told(x, x.flow(0, 0), 45);
        Due.is(x.gate(0, 0, true), 1);
        Due.is(x.gate(0, 1, true), 0);
        x.step(0, 1);
        Due.told(x, x.flow(0, 0), 0);
        Due.told(x, x.cell(0, 0, 1), 10);
        Due.is(x.gate(0, 0, false), 1);
        Due.is(x.gate(0, 0, false), 0);
        x.step(0, 1);
        Due.told(x, x.flow(0, 0), 2);
        Due.told(x, x.flow(0, 1), 0);
        Due.told(x, x.cell(0, 0, 1), 8);
    }

    private static void law() {
        SeaCells x = new SeaCells();
        Due.finds(x, () -> x.law(0, 1, 2), NOTHING);
        Due.refused(x, () -> x.law(0, 9, 2), BAD);
        x.board(0, 0, 2, 1);
        int[][] bad = {{-1, 1, 2}, {6, 1, 2}, {0, 0, 2}, {0, 9, 2}, {0, 1, 1}, {0, 1, 1001}};
        for (int[] k : bad) Due.refused(x, () -> x.law(k[0], k[1], k[2]), BAD);
        x.water(0, 0, 1000);
        x.keep(0, 1);
        Due.is(x.law(0, 8, 1000), 1);
        Due.is(x.law(1, 1, 2), 1);
        x.step(0, 1);
        x.step(1, 1);
        Due.told(x, x.flow(0, 0), 999);
        Due.told(x, x.flow(1, 0), 63);
    }

    private static void wind() {
        SeaCells x = new SeaCells();
        Due.finds(x, () -> x.wind(0, 0, 0), NOTHING);
        Due.refused(x, () -> x.wind(0, 51, 0), BAD);
        x.board(0, 0, 2, 2);
        int[][] bad = {{-1, 0, 0}, {6, 0, 0}, {0, 51, 0}, {0, -51, 0}, {0, 0, 51}, {0, 0, -51}};
        for (int[] k : bad) Due.refused(x, () -> x.wind(k[0], k[1], k[2]), BAD);
        for (int c = 0; c < 4; c++) x.water(0, c, 1000);
        Due.is(x.wind(0, 50, -50), 1);
        x.step(0, 1);
        Due.told(x, x.flow(0, 0), 45);
        Due.told(x, x.flow(0, 1), -45);
        Due.told(x, x.flow(0, 4), 45);
        Due.told(x, x.flow(0, 3), -45);
    }

    private static void river() {
        SeaCells x = new SeaCells();
        Due.finds(x, () -> x.river(0, 0, 0), NOTHING);
        Due.refused(x, () -> x.river(0, 0, 1001), BAD);
        x.board(0, 0, 2, 1);
        Due.finds(x, () -> x.river(0, 2, 0), BEYOND);
        Due.finds(x, () -> x.river(0, -1, 0), BEYOND);
        Due.is(x.river(0, 1, 1000), 1);
        Due.is(x.river(0, 1, 1), 2);
        Due.is(x.river(0, 0, 0), 3);
        Due.is(x.river(0, 0, 10), 4);
        Due.refused(x, () -> x.river(0, 0, 1), FULL);
        Due.refused(x, () -> x.river(0, 2, 1), FULL);
        Due.refused(x, () -> x.river(0, 2, 1001), BAD);
        Due.refused(x, () -> x.river(0, 0, -1), BAD);
        Due.refused(x, () -> x.river(6, 0, 1), BAD);
        Due.refused(x, () -> x.river(-1, 0, 1), BAD);
        x.step(0, 1);
        Due.told(x, x.cell(0, 0, 1), 10);
        Due.told(x, x.cell(0, 1, 1), 1001);
        Due.told(x, x.told(0, 5), 1011);
        x.step(0, 1);
        Due.told(x, x.told(0, 5), 2022);
        Due.told(x, x.told(0, 4), 2022);
    }

    private static void tide() {
        SeaCells x = new SeaCells();
        Due.finds(x, () -> x.tide(0, 0, 0), NOTHING);
        Due.refused(x, () -> x.tide(0, 0, 501), BAD);
        x.board(0, 0, 2, 2);
        x.board(1, 1, 2, 2);
        x.board(2, 3, 2, 2);
        x.nest(3, 1, 0, 0, 1, 1);
        Due.finds(x, () -> x.tide(0, 0, 0), UNLIKE);
        Due.finds(x, () -> x.tide(3, 0, 0), UNLIKE);
        int[][] bad = {{-1, 0, 0}, {6, 0, 0}, {0, -1, 0}, {1, 6, 0}, {1, -9, 0}, {1, 0, 501}, {1, 0, -501}};
        for (int[] k : bad) Due.refused(x, () -> x.tide(k[0], k[1], k[2]), BAD);
        Due.is(x.tide(1, 5, -500), 1);
        Due.is(x.tide(2, 5, 500), 1);
        Due.is(x.mark(1, 1), NONE);
        x.row(5, 0);
        Due.is(x.mark(1, 1), NONE);
        Due.is(x.step(1, 1), 1);
        Due.told(x, x.told(1, 6), 0);
        Due.rowOf(x, 5, 600, 700);
        Due.told(x, x.mark(1, 1), 200);
        Due.told(x, x.mark(2, 1), 1100);
        Due.is(x.tide(2, 5, 0), 1);
        Due.told(x, x.mark(2, 1), 600);
    }

    private static void told() {
        SeaCells x = new SeaCells();
        Due.finds(x, () -> x.told(0, 0), NOTHING);
        Due.refused(x, () -> x.told(0, 11), BAD);
        x.board(0, 1, 3, 2);
        x.row(0, 1);
        x.lay(0, 0, 20);
        x.tide(0, 0, 0);
        x.river(0, 2, 7);
        x.water(0, 4, 50);
        x.spill(0, 4, 0, 60);
        x.spill(0, 5, 0, 1);
        x.spill(0, 4, 1, 70);
        x.spill(0, 0, 2, 80);
        int[] before = {1, 3, 2, 0, 50, 0, 0, 61, 70, 80, 5};
        for (int what = 0; what <= 10; what++) Due.told(x, x.told(0, what), before[what]);
        Due.is(x.step(0, 2), 2);
        Due.told(x, x.told(0, 3), 2);
        Due.told(x, x.told(0, 5), 14);
        Due.told(x, x.told(0, 7), 61);
        Due.told(x, x.told(0, 8), 70);
        Due.told(x, x.told(0, 9), 80);
        long lent = Due.tell(x, x.told(0, 6));
        Due.told(x, x.told(0, 4), 64 + lent);
        Due.refused(x, () -> x.told(0, -1), BAD);
        Due.refused(x, () -> x.told(0, 11), BAD);
        Due.refused(x, () -> x.told(6, 0), BAD);
        Due.refused(x, () -> x.told(-1, 0), BAD);
    }

    private static void mark() {
        SeaCells x = new SeaCells();
        Due.finds(x, () -> x.mark(0, 1), NOTHING);
        Due.refused(x, () -> x.mark(0, 0), BAD);
        x.board(0, 0, 2, 3);
        x.board(1, 1, 2, 3);
        x.board(3, 3, 2, 3);
        for (int kind = 1; kind <= 3; kind++) {
            int k = kind;
            Due.finds(x, () -> x.mark(0, k), UNLIKE);
        }
        Due.finds(x, () -> x.mark(1, 2), UNLIKE);
        Due.finds(x, () -> x.mark(1, 3), UNLIKE);
        Due.finds(x, () -> x.mark(3, 2), UNLIKE);
        Due.is(x.mark(1, 1), NONE);
        Due.is(x.mark(3, 1), NONE);
        Due.told(x, x.mark(3, 3), 0);
        x.water(3, 1, 1);
        x.water(3, 2, 100000);
        Due.told(x, x.mark(3, 3), 2);
        Due.rowOf(x, 2, -4, 30, NONE);
        x.tide(1, 2, -5);
        Due.told(x, x.mark(1, 1), -9);
        x.step(1, 1);
        Due.told(x, x.mark(1, 1), 25);
        x.step(1, 1);
        Due.told(x, x.mark(1, 1), -14);
        x.step(1, 2);
        Due.told(x, x.mark(1, 1), 25);
        x.tear(2);
        Due.is(x.mark(1, 1), NONE);
        Due.is(x.asked(), 25);
        Due.refused(x, () -> x.mark(1, 0), BAD);
        Due.refused(x, () -> x.mark(1, 4), BAD);
        Due.refused(x, () -> x.mark(1, -1), BAD);
        Due.refused(x, () -> x.mark(6, 1), BAD);
        Due.refused(x, () -> x.mark(-1, 1), BAD);
    }

    private static void markOfNests() {
        SeaCells x = new SeaCells();
        x.board(0, 1, 4, 3);
        x.nest(1, 0, 1, 1, 2, 1);
        Due.told(x, x.mark(1, 2), 0);
        Due.finds(x, () -> x.mark(1, 1), UNLIKE);
        Due.finds(x, () -> x.mark(1, 3), UNLIKE);
        Due.finds(x, () -> x.mark(0, 2), UNLIKE);
        x.water(1, 0, 3);
        x.water(1, 2, 6);
        x.up(1);
        Due.told(x, x.mark(1, 2), 5);
    }

    private static void keep() {
        keep(0);
        keep(7);
    }

    private static void keep(int steps) {
        SeaCells x = new SeaCells();
        Due.finds(x, () -> x.keep(0, 1), NOTHING);
        Due.refused(x, () -> x.keep(0, 0), BAD);
        x.board(0, 1, 4, 2);
        Due.rowOf(x, 3, 40, 90, 10);
        x.tide(0, 3, 5);
        x.law(0, 7, 3);
        x.wind(0, 9, -8);
        x.river(0, 3, 21);
        x.gate(0, 2, true);
        x.bottom(0, 5, 20);
        x.post(0, 2);
        x.spill(0, 4, 1, 500);
        x.step(0, 4);
        x.boat(0, 0, 1, 1);
        x.gauge(0, 0, 1);
        x.nest(4, 0, 0, 0, 1, 1);
        x.board(1, 0, 8, 6);
        x.boat(1, 1, 1, 1);
        x.gauge(1, 1, 1);
        x.nest(2, 1, 0, 0, 1, 1);
        Due.is(x.keep(0, 1), 8);
        Due.is(x.count(2), 3);
        Due.is(x.where(1), NONE);
        Due.is(x.count(3), 1);
        Due.is(x.count(4), 1);
        Due.finds(x, () -> x.told(2, 0), NOTHING);
        Due.is(x.step(0, steps), steps);
        Due.is(x.step(1, steps), steps);
        sameBoards(x, 0, 1);
        Due.is(x.river(1, 0, 0), 2);
        Due.is(x.post(1, 0), 2);
        Due.is(x.mirror(1), 1);
        Due.refused(x, () -> x.keep(6, 0), BAD);
        Due.refused(x, () -> x.keep(-1, 0), BAD);
        Due.refused(x, () -> x.keep(0, 6), BAD);
        Due.refused(x, () -> x.keep(0, -1), BAD);
        Due.refused(x, () -> x.keep(5, 5), BAD);
        Due.finds(x, () -> x.keep(5, 0), NOTHING);
        Due.told(x, x.told(0, 3), 4 + steps);
    }

    private static void sameBoards(SeaCells x, int a, int b) {
        for (int what = 0; what <= 10; what++) {
            long want = Due.tell(x, x.told(a, what));
            Due.told(x, x.told(b, what), want);
        }
        for (int c = 0; c < 8; c++) {
            for (int what = 0; what < 6; what++) {
                long want = Due.tell(x, x.cell(a, c, what));
                Due.told(x, x.cell(b, c, what), want);
            }
        }
        for (int side = 0; side < 16; side++) {
            if (side == 6 || side == 14 || side > 7 && side % 2 == 1) continue;
            long want = Due.tell(x, x.flow(a, side));
            Due.told(x, x.flow(b, side), want);
        }
        long want = Due.tell(x, x.mark(a, 1));
        Due.told(x, x.mark(b, 1), want);
    }

    private static void keepNests() {
        SeaCells x = new SeaCells();
        x.board(0, 0, 4, 3);
        x.nest(1, 0, 0, 0, 2, 2);
        x.nest(2, 1, 0, 0, 2, 2);
        Due.refused(x, () -> x.keep(2, 0), STATE);
        Due.refused(x, () -> x.keep(2, 1), STATE);
        Due.refused(x, () -> x.keep(1, 0), STATE);
        Due.finds(x, () -> x.keep(3, 0), NOTHING);
        x.water(1, 3, 44);
        Due.is(x.keep(1, 5), 16);
        Due.told(x, x.told(5, 0), 0);
        Due.told(x, x.cell(5, 3, 1), 44);
        Due.is(x.mirror(5), 1);
        Due.told(x, x.told(1, 0), 2);
        // a place within it is free: what was there goes, with what lay in that
        Due.is(x.keep(0, 1), 12);
        Due.is(x.count(2), 3);
        Due.finds(x, () -> x.told(2, 0), NOTHING);
        Due.told(x, x.told(1, 0), 0);
        Due.is(x.mirror(0), 1);
    }

    private static void mirror() {
        for (int w = 4; w <= 5; w++) mirrorOf(w, 0);
        for (int w = 4; w <= 5; w++) mirrorOf(w, 5);
    }

    private static void mirrorOf(int w, int steps) {
        SeaCells x = new SeaCells();
        x.board(0, 1, w, 2);
        Due.rowOf(x, 0, 90);
        x.law(0, 3, 5);
        x.wind(0, 11, 4);
        x.river(0, w, 13);
        x.gate(0, 0, true);
        x.gate(0, 2 * w + 2, true);
        x.gate(0, 3, true);
        for (int c = 0; c < 2 * w; c++) {
            x.water(0, c, 200 + 31 * c);
            x.bottom(0, c, 7 * c);
            for (int k = 0; k < 3; k++) x.spill(0, c, k, 100 * k + c);
        }
        x.step(0, 3);
        x.boat(3, 0, w + 1, 1);
        x.gauge(3, 0, w + 1);
        x.post(0, 0);
        x.keep(0, 1);
        x.boat(4, 1, w + 1, 1);
        Due.is(x.mirror(0), 1);
        Due.is(x.where(3), 2 * w - 2);
        Due.is(x.where(4), w + 1);
        Due.is(x.step(0, steps), steps);
        Due.is(x.step(1, steps), steps);
        mirrored(x, w);
        int there = x.where(4);
        Due.is(x.where(3), there - there % w + w - 1 - there % w);
        x.tide(0, 0, 0);
        x.step(0, 1);
        long read = Due.tell(x, x.reading(3, 0));
        Due.told(x, x.cell(0, 2 * w - 2, 2), read);
        Due.told(x, x.cell(0, 0, 2), 90);
        Due.told(x, x.cell(0, w, 2), 90);
        Due.is(x.post(0, 0), 2);
    }

    /** BOARD 0 is BOARD 1 in the mirror. */
    private static void mirrored(SeaCells x, int w) {
        for (int c = 0; c < 2 * w; c++) {
            int other = c - c % w + w - 1 - c % w;
            for (int what = 0; what < 6; what++) {
                long want = Due.tell(x, x.cell(1, other, what));
                Due.told(x, x.cell(0, c, what), want);
            }
            if (c % w < w - 1) {
                long want = -Due.tell(x, x.flow(1, 2 * (other - 1)));
                Due.told(x, x.flow(0, 2 * c), want);
                boolean shut = x.gate(1, 2 * (other - 1), true) == 1;
                x.gate(1, 2 * (other - 1), shut);
                Due.is(x.gate(0, 2 * c, shut), shut ? 1 : 0);
            }
            if (c < w) {
                long want = Due.tell(x, x.flow(1, 2 * other + 1));
                Due.told(x, x.flow(0, 2 * c + 1), want);
                boolean shut = x.gate(1, 2 * other + 1, true) == 1;
                x.gate(1, 2 * other + 1, shut);
                Due.is(x.gate(0, 2 * c + 1, shut), shut ? 1 : 0);
            }
        }
    }

    private static void mirrorRefused() {
        SeaCells x = new SeaCells();
        Due.finds(x, () -> x.mirror(0), NOTHING);
        Due.refused(x, () -> x.mirror(6), BAD);
        Due.refused(x, () -> x.mirror(-1), BAD);
        x.board(0, 0, 4, 3);
        x.nest(1, 0, 0, 0, 2, 2);
        x.nest(2, 1, 0, 0, 1, 1);
        Due.refused(x, () -> x.mirror(0), STATE);
        Due.finds(x, () -> x.mirror(1), UNLIKE);
        Due.finds(x, () -> x.mirror(2), UNLIKE);
        x.drop(1);
        Due.is(x.mirror(0), 1);
    }
}
