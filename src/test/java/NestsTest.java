/** Promises 36 to 38: NESTS, what goes up and down between them and their BOARDS. */
public final class NestsTest {
    private static final int BAD = -1, STATE = -4, NONE = -9;
    private static final int NOTHING = 1, UNLIKE = 3;

    public static void main(String[] args) {
        nest();
        nestAnew();
        nestRefused();
        nestsInNests();
        exchangeRefused();
        up();
        upCuts();
        down();
        downLacks();
        downOver();
        exact();
        manyCells();
        Due.end();
    }

    private static void nest() {
        SeaCells x = new SeaCells();
        x.board(0, 1, 6, 4);
        for (int c = 0; c < 24; c++) {
            x.water(0, c, 10 * c);
            x.bottom(0, c, -c);
            x.spill(0, c, 1, 5);
        }
        Due.is(x.nest(1, 0, 2, 1, 3, 2), 24);
        int[] due = {2, 6, 4, 0};
        for (int what = 0; what < 4; what++) Due.told(x, x.told(1, what), due[what]);
        Due.told(x, x.told(1, 8), 0);
        for (int c = 0; c < 24; c++) {
            int beneath = (1 + c / 6 / 2) * 6 + 2 + c % 6 / 2;
            Due.told(x, x.cell(1, c, 1), 10 * beneath);
            Due.told(x, x.cell(1, c, 0), -beneath);
        }
        Due.told(x, x.mark(1, 2), 0);
        // it is a BOARD: it steps, and what it lies on does not
        Due.is(x.step(1, 2), 2);
        Due.told(x, x.told(1, 3), 2);
        Due.told(x, x.told(0, 3), 0);
        Due.told(x, x.cell(0, 8, 1), 80);
        Due.is(x.nest(2, 0, 0, 0, 4, 3), 48);
        Due.is(x.nest(3, 0, 5, 3, 1, 1), 4);
    }

    private static void nestAnew() {
        SeaCells x = new SeaCells();
        x.board(0, 0, 4, 3);
        x.board(1, 0, 4, 3);
        x.law(1, 8, 2);
        x.wind(1, 9, 9);
        x.river(1, 0, 3);
        x.gate(1, 0, true);
        x.post(1, 0);
        x.boat(0, 1, 0, 1);
        x.gauge(0, 1, 0);
        x.nest(2, 1, 0, 0, 1, 1);
        x.water(0, 5, 100);
        Due.refused(x, () -> x.nest(1, 0, 9, 0, 1, 1), BAD);
        Due.is(x.where(0), 0);
        Due.is(x.nest(1, 0, 0, 0, 2, 2), 16);
        Due.is(x.where(0), NONE);
        Due.is(x.count(4), 0);
        Due.is(x.count(2), 2);
        Due.finds(x, () -> x.told(2, 0), NOTHING);
        Due.is(x.gate(1, 0, false), 0);
        Due.is(x.river(1, 0, 0), 1);
        Due.is(x.post(1, 0), 1);
        // PULL 4, DRAG 10, no WIND: from CELL 10 to CELL 9 45 is led, and to CELL 6
        x.step(1, 1);
        Due.told(x, x.flow(1, 18), -45);
        Due.told(x, x.flow(1, 13), -45);
        // laid anew where it was, in another BOARD, it is another one
        x.board(3, 0, 2, 1);
        x.water(3, 1, 9);
        Due.is(x.nest(1, 3, 1, 0, 1, 1), 4);
        Due.told(x, x.told(1, 4), 36);
        Due.is(x.mirror(0), 1);
        Due.is(x.mirror(3), STATE);
    }

    private static void nestRefused() {
        SeaCells x = new SeaCells();
        Due.finds(x, () -> x.nest(0, 1, 0, 0, 1, 1), NOTHING);
        x.board(0, 0, 6, 5);
        int[][] bad = {{-1, 0, 0, 0, 1, 1}, {6, 0, 0, 0, 1, 1}, {1, -1, 0, 0, 1, 1}, {1, 6, 0, 0, 1, 1},
            {0, 0, 0, 0, 1, 1}, {2, 2, 0, 0, 1, 1}, {1, 0, -1, 0, 1, 1}, {1, 0, 0, -1, 1, 1}, {1, 0, 0, 0, 0, 1},
            {1, 0, 0, 0, 1, 0}, {1, 0, 0, 0, 5, 1}, {1, 0, 0, 0, 1, 4}, {1, 0, 6, 0, 1, 1}, {1, 0, 3, 0, 4, 1},
            {1, 0, 0, 5, 1, 1}, {1, 0, 0, 3, 1, 3}, {1, 0, 0, 0, -1, 1}, {1, 0, 0, 0, 1, -1},
            {1, 0, 0, 0, Integer.MAX_VALUE, 1}, {1, 0, 0, 0, 1 << 30, 1}, {1, 0, 0, 0, 1, Integer.MIN_VALUE + 1},
            {1, 0, Integer.MAX_VALUE, 0, 1, 1}, {1, 0, 0, Integer.MAX_VALUE, 1, 1}, {1, 5, 0, 0, 5, 1}};
        for (int[] k : bad) Due.refused(x, () -> x.nest(k[0], k[1], k[2], k[3], k[4], k[5]), BAD);
        Due.finds(x, () -> x.nest(1, 5, 0, 0, 1, 1), NOTHING);
        Due.refused(x, () -> x.nest(0, 5, 0, 0, 1, 1), -3);
        Due.is(x.nest(1, 0, 2, 2, 4, 3), 48);
    }

    private static void nestsInNests() {
        SeaCells x = new SeaCells();
        x.board(0, 0, 4, 3);
        x.nest(1, 0, 0, 0, 4, 3);
        x.nest(2, 1, 0, 0, 4, 3);
        x.nest(3, 2, 0, 0, 4, 3);
        x.nest(4, 3, 0, 0, 4, 3);
        x.nest(5, 4, 0, 0, 4, 3);
        for (int b = 0; b < 5; b++) {
            for (int in = b + 1; in < 6; in++) {
                int k = b;
                int n = in;
                Due.refused(x, () -> x.nest(k, n, 0, 0, 1, 1), STATE);
            }
        }
        Due.refused(x, () -> x.nest(0, 1, 8, 0, 1, 1), BAD);
        // the deepest one may be laid elsewhere, then what it lay on in it
        Due.is(x.nest(5, 0, 0, 0, 1, 1), 4);
        Due.is(x.count(2), 6);
        Due.is(x.nest(1, 5, 0, 0, 1, 1), 4);
        Due.is(x.count(2), 3);
        Due.refused(x, () -> x.nest(0, 1, 0, 0, 1, 1), STATE);
    }

    private static void exchangeRefused() {
        SeaCells x = new SeaCells();
        Due.finds(x, () -> x.up(0), NOTHING);
        Due.finds(x, () -> x.down(0), NOTHING);
        x.board(0, 0, 4, 3);
        x.board(1, 1, 4, 3);
        Due.finds(x, () -> x.up(0), UNLIKE);
        Due.finds(x, () -> x.down(1), UNLIKE);
        for (int n : new int[] {-1, 6}) {
            Due.refused(x, () -> x.up(n), BAD);
            Due.refused(x, () -> x.down(n), BAD);
        }
        Due.refused(x, () -> x.up(0), -3);
        Due.refused(x, () -> x.down(0), -3);
    }

    /** NEST 1 of four CELLS on CELL 1 of BOARD 0, which has so much WATER; the fine ones have these. */
    private static SeaCells nested(int beneath, int... fine) {
        SeaCells x = new SeaCells();
        x.board(0, 0, 2, 1);
        x.water(0, 0, 7);
        x.water(0, 1, beneath);
        x.nest(1, 0, 1, 0, 1, 1);
        for (int i = 0; i < 4; i++) x.water(1, i, fine[i]);
        return x;
    }

    private static void isNow(SeaCells x, int beneath, int rest, int... fine) {
        Due.told(x, x.cell(0, 1, 1), beneath);
        Due.told(x, x.cell(0, 0, 1), 7);
        Due.told(x, x.mark(1, 2), rest);
        for (int i = 0; i < 4; i++) Due.told(x, x.cell(1, i, 1), fine[i]);
    }

    private static void up() {
        SeaCells x = nested(10, 1, 2, 30, 5);
        Due.told(x, x.up(1), -1);
        isNow(x, 9, 2, 1, 2, 30, 5);
        Due.told(x, x.up(1), 1);
        isNow(x, 10, 0, 1, 2, 30, 5);
        Due.told(x, x.up(1), -1);
        // the MARK is that WATER: nothing goes down then
        Due.told(x, x.down(1), 0);
        isNow(x, 9, 2, 1, 2, 30, 5);
        x.water(0, 1, 5);
        Due.told(x, x.up(1), 5);
        isNow(x, 10, 0, 1, 2, 30, 5);
    }

    private static void upCuts() {
        // a REST below 0: what 6 deep DOWNs take from 4 that have not as much
        SeaCells x = nested(10, 0, 7, 9, 3);
        x.water(0, 1, 4);
        Due.told(x, x.down(1), -19);
        isNow(x, 4, -5, 0, 0, 0, 0);
        Due.told(x, x.up(1), -4);
        isNow(x, 0, -5, 0, 0, 0, 0);
        x.water(1, 0, 4);
        Due.told(x, x.up(1), 0);
        isNow(x, 0, -1, 4, 0, 0, 0);
        x.water(1, 0, 8);
        Due.told(x, x.up(1), 1);
        isNow(x, 1, 3, 8, 0, 0, 0);
        // down, where towards 0 would be another number: (4 - 6) by 4
        SeaCells z = nested(10, 0, 0, 0, 0);
        z.water(0, 1, 9);
        z.down(1);
        isNow(z, 9, -4, 0, 0, 0, 0);
        z.water(1, 0, 3);
        Due.told(z, z.up(1), -9);
        isNow(z, 0, -1, 3, 0, 0, 0);
        // more than a CELL can have
        SeaCells y = nested(99990, 100000, 100000, 100000, 99999);
        y.water(0, 1, 99995);
        y.down(1);
        isNow(y, 99995, 19, 100000, 100000, 100000, 100000);
        Due.told(y, y.up(1), 5);
        isNow(y, 100000, 19, 100000, 100000, 100000, 100000);
    }

    private static void down() {
        SeaCells x = nested(10, 1, 2, 30, 5);
        x.water(0, 1, 13);
        Due.told(x, x.down(1), 12);
        isNow(x, 13, 0, 4, 5, 33, 8);
        Due.told(x, x.down(1), 0);
        x.water(0, 1, 11);
        Due.told(x, x.down(1), -8);
        isNow(x, 11, 0, 2, 3, 31, 6);
    }

    private static void downLacks() {
        SeaCells x = nested(10, 1, 2, 30, 5);
        x.water(0, 1, 4);
        Due.told(x, x.down(1), -24);
        isNow(x, 4, 0, 0, 0, 14, 0);
        // round: the last takes from the first
        SeaCells y = nested(10, 10, 9, 9, 0);
        y.water(0, 1, 7);
        Due.told(y, y.down(1), -12);
        isNow(y, 7, 0, 4, 6, 6, 0);
        // from the next one first, then on
        SeaCells z = nested(10, 9, 0, 4, 4);
        z.water(0, 1, 7);
        Due.told(z, z.down(1), -12);
        isNow(z, 7, 0, 5, 0, 0, 0);
        SeaCells v = nested(10, 4, 4, 0, 9);
        v.water(0, 1, 7);
        v.down(1);
        isNow(v, 7, 0, 1, 1, 0, 3);
        // in order: the first that lacks takes ahead of the third
        SeaCells w = nested(10, 0, 5, 0, 4);
        w.water(0, 1, 8);
        w.down(1);
        isNow(w, 8, 0, 0, 1, 0, 0);
        SeaCells u = nested(10, 1, 1, 1, 1);
        u.water(0, 1, 0);
        Due.told(u, u.down(1), -4);
        isNow(u, 0, -36, 0, 0, 0, 0);
    }

    private static void downOver() {
        SeaCells x = nested(10, 100000, 99999, 99998, 5);
        x.water(0, 1, 12);
        Due.told(x, x.down(1), 5);
        isNow(x, 12, 3, 100000, 100000, 100000, 7);
        // what is over is REST, it fills none that lacks
        SeaCells y = nested(100, 100000, 100000, 0, 0);
        y.water(0, 1, 101);
        Due.told(y, y.down(1), 2);
        isNow(y, 101, 2, 100000, 100000, 1, 1);
    }

    /** None is lost between the WATER of the fine CELLS, four times that beneath, and REST. */
    private static void exact() {
        SeaCells x = new SeaCells();
        x.board(0, 0, 5, 4);
        for (int c = 0; c < 20; c++) x.water(0, c, 37 * c % 101);
        x.nest(1, 0, 1, 1, 3, 2);
        for (int turn = 0; turn < 4; turn++) {
            x.step(1, 3);
            long ahead = Due.tell(x, x.told(1, 4)) + Due.tell(x, x.mark(1, 2));
            long before = beneath(x);
            Due.is(x.up(1), 1);
            long more = x.asked();
            Due.is(beneath(x), before + more);
            Due.is(4 * beneath(x) + Due.tell(x, x.mark(1, 2)), ahead);
            long marked = beneath(x);
            x.step(0, 2);
            ahead = Due.tell(x, x.told(1, 4)) + Due.tell(x, x.mark(1, 2));
            before = Due.tell(x, x.told(1, 4));
            Due.is(x.down(1), 1);
            more = x.asked();
            Due.is(Due.tell(x, x.told(1, 4)), before + more);
            Due.is(Due.tell(x, x.told(1, 4)) + Due.tell(x, x.mark(1, 2)), ahead + 4 * (beneath(x) - marked));
        }
    }

    private static long beneath(SeaCells x) {
        long sum = 0;
        for (int c : new int[] {6, 7, 8, 11, 12, 13}) sum += Due.tell(x, x.cell(0, c, 1));
        return sum;
    }

    private static void manyCells() {
        SeaCells x = new SeaCells();
        x.board(0, 0, 4, 3);
        x.nest(1, 0, 1, 1, 2, 2);
        // CELL (1, 1) of the fine ones is the fourth of the first, CELL (2, 3) the third of the last
        x.water(1, 5, 9);
        x.water(1, 14, 6);
        x.water(1, 2, 4);
        x.water(1, 12, 8);
        Due.told(x, x.up(1), 2 + 1 + 1 + 2);
        int[] due = {0, 0, 0, 0, 0, 2, 1, 0, 0, 2, 1, 0};
        for (int c = 0; c < 12; c++) Due.told(x, x.cell(0, c, 1), due[c]);
        Due.told(x, x.mark(1, 2), 3);
        x.water(0, 5, 3);
        x.water(0, 10, 3);
        Due.told(x, x.down(1), 4 + 8);
        int[] fine = {1, 1, 4, 0, 1, 10, 0, 0, 0, 0, 2, 2, 8, 0, 8, 2};
        for (int c = 0; c < 16; c++) Due.told(x, x.cell(1, c, 1), fine[c]);
    }
}
