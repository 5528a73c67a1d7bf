/** The edges that parts 1 of the terms names: what there is, how much it may be, and what it is at first. */
public final class SeaEdgesTest {
    private static final int NONE = -9;
    private static final int NOTHING = 1, BEYOND = 2;

    public static void main(String[] args) {
        rowsAreSixAndMissingAtFirst();
        rowsHoldUpTo48();
        textsAreSixAndMissingAtFirst();
        textsHoldUpTo40();
        boardsAreSixAndMissingAtFirst();
        boardsOfAllSizes();
        cellsAreNumberedLineByLine();
        kinds();
        bottoms();
        waters();
        stuffs();
        levels();
        flowsLeadAway();
        boardsAtFirst();
        pulls();
        drags();
        winds();
        rivers();
        rim();
        tideIsNoneAtFirst();
        tideRowAsItIsThen();
        mores();
        boatsAndGaugesAreEight();
        Due.end();
    }

    private static void rowsAreSixAndMissingAtFirst() {
        Due.says("ROWS 0 .. 5 are rows of 0 to 48 ints, or missing (at first)");
        SeaCells x = new SeaCells();
        for (int k = 0; k < 6; k++) {
            int r = k;
            Due.finds(x, () -> x.tear(r), NOTHING);
            Due.is(x.row(r, r + 1), r + 1);
        }
        Due.is(x.count(0), 6);
        // each is a ROW of its own
        for (int r = 0; r < 6; r++) Due.told(x, x.lay(r, r, 10 + r), 0);
        for (int r = 0; r < 6; r++) Due.told(x, x.lay(r, r, 0), 10 + r);
    }

    private static void rowsHoldUpTo48() {
        Due.says("ROWS 0 .. 5 are rows of 0 to 48 ints");
        SeaCells x = new SeaCells();
        for (int n = 0; n <= 48; n++) {
            int size = n;
            Due.is(x.row(3, n), n);
            if (n > 0) Due.told(x, x.lay(3, n - 1, 5), 0);
            Due.finds(x, () -> x.lay(3, size, 5), BEYOND);
        }
    }

    private static void textsAreSixAndMissingAtFirst() {
        Due.says("TEXTS 0 .. 5 are rows of 0 to 40 bytes, or missing (at first)");
        SeaCells x = new SeaCells();
        for (int k = 0; k < 6; k++) {
            int t = k;
            Due.finds(x, () -> x.burn(t), NOTHING);
            Due.is(x.text(t, t + 1), t + 1);
        }
        Due.is(x.count(1), 6);
        for (int t = 0; t < 6; t++) Due.is(x.put(t, t, t), 1032);
        for (int t = 0; t < 6; t++) Due.is(x.put(t, t, 0), 1000 + t);
    }

    private static void textsHoldUpTo40() {
        Due.says("TEXTS 0 .. 5 are rows of 0 to 40 bytes");
        SeaCells x = new SeaCells();
        for (int n = 0; n <= 40; n++) {
            int size = n;
            Due.is(x.text(3, n), n);
            if (n > 0) Due.is(x.put(3, n - 1, 5), 1032);
            Due.finds(x, () -> x.put(3, size, 5), BEYOND);
        }
    }

    private static void boardsAreSixAndMissingAtFirst() {
        Due.says("BOARDS 0 .. 5 (missing at first)");
        SeaCells x = new SeaCells();
        for (int k = 0; k < 6; k++) {
            int b = k;
            Due.finds(x, () -> x.drop(b), NOTHING);
            Due.is(x.board(b, 0, 2 + b, 1), 2 + b);
        }
        Due.is(x.count(2), 6);
        for (int b = 0; b < 6; b++) Due.is(x.water(b, 1 + b, 10 + b), 0);
        for (int b = 0; b < 6; b++) Due.told(x, x.told(b, 4), 10 + b);
    }

    private static void boardsOfAllSizes() {
        Due.says("W by H CELLS (W 2 .. 8, H 1 .. 6); SIDES: its right one and its upper one, if there is a CELL there");
        for (int w = 2; w <= 8; w++) {
            for (int h = 1; h <= 6; h++) {
                SeaCells x = new SeaCells();
                int cells = w * h;
                Due.is(x.board(0, (w + h) % 2, w, h), cells);
                Due.told(x, x.told(0, 1), w);
                Due.told(x, x.told(0, 2), h);
                Due.is(x.water(0, cells - 1, 0), 0);
                Due.finds(x, () -> x.water(0, cells, 0), BEYOND);
                for (int side = 0; side < 2 * cells + 2; side++) sideIs(x, side, isSide(side, w, h));
            }
        }
    }

    private static boolean isSide(int side, int w, int h) {
        int x = side / 2 % w;
        int y = side / 2 / w;
        return side % 2 == 0 ? y < h && x + 1 < w : y + 1 < h;
    }

    private static void sideIs(SeaCells x, int side, boolean there) {
        if (there) Due.told(x, x.flow(0, side), 0);
        else Due.is(x.flow(0, side), SeaCells.FINDING);
    }

    private static void cellsAreNumberedLineByLine() {
        Due.says("CELL (x, y), number W y and x; SIDES: number 2 CELL, and 1 more for the upper one");
        SeaCells x = new SeaCells();
        x.board(0, 0, 5, 3);
        x.water(0, 7, 400);
        x.step(0, 1);
        int[] wet = {8, 12, 6, 2};
        for (int c : wet) Due.told(x, x.cell(0, c, 1), 100);
        Due.told(x, x.told(0, 10), 15 - 4 - 1 + 1);
        Due.told(x, x.flow(0, 2 * 7), 100);
        Due.told(x, x.flow(0, 2 * 7 + 1), 100);
        Due.told(x, x.flow(0, 2 * 6), -100);
        Due.told(x, x.flow(0, 2 * 2 + 1), -100);
    }

    private static void kinds() {
        Due.says("KINDS: 0 BOARD, 1 TIDAL (a BOARD), 2 NEST (a BOARD, in another one), 3 ICED (a TIDAL: no wind moves it)");
        SeaCells x = new SeaCells();
        Due.rowOf(x, 0, 70);
        x.board(0, 0, 4, 1);
        x.board(1, 1, 4, 1);
        x.nest(2, 0, 0, 0, 2, 1);
        x.board(3, 3, 4, 1);
        for (int b = 0; b < 4; b++) {
            Due.told(x, x.told(b, 0), b);
            Due.is(x.tide(b, 0, 0), b % 2 == 1 ? 1 : -3);
            for (int c = 0; c < (b == 2 ? 8 : 4); c++) x.water(b, c, 70);
            x.wind(b, 50, 0);
            Due.is(x.step(b, 1), 1);
            // 50 less a tenth, but none on the ICED one
            Due.told(x, x.flow(b, 2), b == 3 ? 0 : 45);
        }
        int[] first = {25, 70, 25, 70};
        for (int b = 0; b < 4; b++) Due.told(x, x.cell(b, 0, 1), first[b]);
    }

    private static void bottoms() {
        Due.says("BOTTOM (-1000 .. 1000; 0 at first)");
        SeaCells x = Seas.two(0, 0);
        int was = 0;
        for (int v : new int[] {-1000, 1000, -999, 999, 0}) {
            Due.told(x, x.bottom(0, 1, v), was);
            Due.told(x, x.cell(0, 1, 0), v);
            was = v;
        }
        for (int v : new int[] {-1001, 1001}) Due.is(x.bottom(0, 1, v), -1);
        Due.told(x, x.cell(0, 1, 0), 0);
    }

    private static void waters() {
        Due.says("WATER (0 .. 100000; 0 at first)");
        SeaCells x = new SeaCells();
        x.board(0, 0, 2, 1);
        int was = 0;
        for (int v : new int[] {100000, 0, 99999, 1, 0}) {
            Due.is(x.water(0, 1, v), was);
            Due.told(x, x.cell(0, 1, 1), v);
            was = v;
        }
        for (int v : new int[] {-1, 100001}) Due.is(x.water(0, 1, v), -1);
        Due.told(x, x.cell(0, 1, 1), 0);
    }

    private static void stuffs() {
        Due.says("of STUFFS 0 to 2 an amount (0 .. 100000; 0 at first)");
        SeaCells x = Seas.two(5, 5);
        for (int stuff = 0; stuff < 3; stuff++) {
            int was = 0;
            for (int v : new int[] {100000, 0, 99999, 1, 100000}) {
                Due.is(x.spill(0, 1, stuff, v), was);
                Due.told(x, x.cell(0, 1, 3 + stuff), v);
                was = v;
            }
            for (int v : new int[] {-1, 100001}) Due.is(x.spill(0, 1, stuff, v), -1);
            Due.told(x, x.told(0, 7 + stuff), 100000);
            for (int later = stuff + 1; later < 3; later++) Due.told(x, x.told(0, 7 + later), 0);
        }
        for (int stuff : new int[] {-1, 3}) Due.is(x.spill(0, 1, stuff, 0), -1);
    }

    private static void levels() {
        Due.says("LEVEL: BOTTOM and WATER");
        SeaCells x = Seas.two(0, 100000);
        Due.told(x, x.cell(0, 0, 2), 0);
        Due.told(x, x.cell(0, 1, 2), 100000);
        x.bottom(0, 0, -1000);
        x.bottom(0, 1, 1000);
        Due.told(x, x.cell(0, 0, 2), -1000);
        Due.told(x, x.cell(0, 1, 2), 101000);
        x.water(0, 0, 1000);
        Due.told(x, x.cell(0, 0, 2), 0);
    }

    private static void flowsLeadAway() {
        Due.says("A SIDE has a FLOW (an int; 0 at first; above 0: away from its CELL)");
        SeaCells x = Seas.two(80, 0);
        Due.told(x, x.flow(0, 0), 0);
        x.step(0, 1);
        Due.told(x, x.flow(0, 0), 36);
        SeaCells y = Seas.two(0, 80);
        y.step(0, 1);
        Due.told(y, y.flow(0, 0), -36);
        SeaCells z = new SeaCells();
        z.board(0, 0, 2, 2);
        z.water(0, 0, 80);
        z.water(0, 3, 80);
        z.step(0, 1);
        Due.told(z, z.flow(0, 1), 36);
        Due.told(z, z.flow(0, 3), -36);
    }

    private static void boardsAtFirst() {
        Due.says("at first: BOTTOM, WATER, STUFFS, FLOW 0, open, PULL 4, DRAG 10, WIND 0, no RIVERS, no TIDE");
        for (int kind : new int[] {0, 1, 3}) {
            SeaCells x = new SeaCells();
            x.board(0, kind, 2, 2);
            for (int c = 0; c < 4; c++) {
                for (int what = 0; what < 6; what++) Due.told(x, x.cell(0, c, what), 0);
            }
            for (int side : new int[] {0, 1, 3, 4}) {
                Due.told(x, x.flow(0, side), 0);
                Due.is(x.gate(0, side, false), 0);
            }
            for (int what = 3; what < 10; what++) Due.told(x, x.told(0, what), 0);
            Due.told(x, x.told(0, 10), 4);
            for (int c = 0; c < 4; c++) x.water(0, c, c == 1 ? 140 : 100);
            Due.is(x.step(0, 1), 1);
            // 4 times 40 by 8, and a tenth less: from CELL 1, and no wind between the others
            int[] due = {-18, 0, 18, 0};
            int[] sides = {0, 1, 3, 4};
            for (int k = 0; k < 4; k++) Due.told(x, x.flow(0, sides[k]), due[k]);
            Due.told(x, x.told(0, 5), 0);
            Due.told(x, x.told(0, 6), 0);
            Due.is(x.river(0, 0, 0), 1);
            Due.is(x.post(0, 0), 1);
        }
    }

    private static void pulls() {
        Due.says("PULL (1 .. 8; 4 at first); and PULL times (LEVEL of p less LEVEL of q) by 8, cut");
        for (int pull = 1; pull <= 8; pull++) {
            for (int more = -9; more <= 9; more++) {
                SeaCells x = Seas.two(500 + more, 500);
                Due.is(x.law(0, pull, 1000), 1);
                x.step(0, 1);
                int due = pull * Math.abs(more) / 8;
                Due.told(x, x.flow(0, 0), more < 0 ? -due : due);
            }
        }
        SeaCells y = Seas.two(516, 500);
        for (int pull : new int[] {0, 9}) Due.is(y.law(0, pull, 1000), -1);
        y.step(0, 1);
        Due.told(y, y.flow(0, 0), 8);
    }

    private static void drags() {
        Due.says("DRAG (2 .. 1000; 10 at first); of this its DRAGth part, cut, is taken away");
        for (int drag : new int[] {2, 3, 10, 49, 50, 51, 999, 1000}) {
            for (int wind = -50; wind <= 50; wind += wind > -4 && wind < 3 ? 1 : 3) {
                SeaCells x = Seas.two(500, 500);
                x.wind(0, wind, 0);
                Due.is(x.law(0, 4, drag), 1);
                x.step(0, 1);
                int due = Math.abs(wind) - Math.abs(wind) / drag;
                Due.told(x, x.flow(0, 0), wind < 0 ? -due : due);
            }
        }
        SeaCells y = Seas.two(1000, 0);
        for (int drag : new int[] {1, 1001, 0}) Due.is(y.law(0, 8, drag), -1);
        y.law(0, 8, 1000);
        y.step(0, 1);
        Due.told(y, y.flow(0, 0), 999);
    }

    private static void winds() {
        Due.says("WIND (x, y: -50 .. 50 each; 0 at first): x at right ones, y at upper ones");
        for (int wind : new int[] {-50, -1, 0, 1, 50}) {
            SeaCells x = new SeaCells();
            x.board(0, 0, 2, 2);
            for (int c = 0; c < 4; c++) x.water(0, c, 500);
            x.law(0, 4, 1000);
            Due.is(x.wind(0, wind, 0), 1);
            x.step(0, 1);
            int[] right = {wind, 0, 0, wind};
            int[] sides = {0, 1, 3, 4};
            for (int k = 0; k < 4; k++) Due.told(x, x.flow(0, sides[k]), right[k]);
            SeaCells y = new SeaCells();
            y.board(0, 0, 2, 2);
            for (int c = 0; c < 4; c++) y.water(0, c, 500);
            y.law(0, 4, 1000);
            Due.is(y.wind(0, 0, wind), 1);
            y.step(0, 1);
            int[] upper = {0, wind, wind, 0};
            for (int k = 0; k < 4; k++) Due.told(y, y.flow(0, sides[k]), upper[k]);
        }
    }

    private static void rivers() {
        Due.says("RIVERS of a BOARD (4 at most): a CELL, how much each STEP (0 .. 1000)");
        SeaCells x = Seas.two(0, 0);
        x.gate(0, 0, true);
        int[] much = {0, 1000, 1, 999};
        for (int k = 0; k < 4; k++) Due.is(x.river(0, 1, much[k]), k + 1);
        Due.is(x.river(0, 1, 1), SeaCells.FULL);
        Due.is(x.step(0, 2), 2);
        Due.told(x, x.cell(0, 0, 1), 0);
        Due.told(x, x.cell(0, 1, 1), 4000);
        Due.told(x, x.told(0, 5), 4000);
        // 4 on each BOARD
        x.board(1, 0, 2, 1);
        for (int k = 0; k < 4; k++) Due.is(x.river(1, 0, k), k + 1);
    }

    private static void rim() {
        Due.says("THE RIM of a TIDAL one: all CELLS with x 0");
        for (int kind : new int[] {1, 3}) {
            SeaCells x = new SeaCells();
            x.board(0, kind, 3, 6);
            Due.rowOf(x, 0, 33);
            x.tide(0, 0, 0);
            x.step(0, 1);
            for (int c = 0; c < 18; c++) Due.told(x, x.cell(0, c, 1), c % 3 == 0 ? 33 : 0);
            Due.told(x, x.told(0, 6), 6 * 33);
        }
    }

    private static void tideIsNoneAtFirst() {
        Due.says("its TIDE: a ROW (none at first; as it is then; missing, or of no places: none)");
        SeaCells x = new SeaCells();
        x.board(0, 1, 2, 1);
        for (int r = 0; r < 6; r++) Due.rowOf(x, r, 50);
        x.water(0, 0, 20);
        x.water(0, 1, 20);
        Due.is(x.mark(0, 1), NONE);
        Due.is(x.step(0, 1), 1);
        Due.told(x, x.cell(0, 0, 1), 20);
        Due.told(x, x.told(0, 6), 0);
        x.tide(0, 5, 0);
        Due.told(x, x.mark(0, 1), 50);
        Due.is(x.step(0, 1), 1);
        Due.told(x, x.cell(0, 0, 1), 50);
        // missing
        x.tear(5);
        Due.is(x.mark(0, 1), NONE);
        x.water(0, 0, 7);
        x.water(0, 1, 7);
        x.gate(0, 0, true);
        Due.is(x.step(0, 1), 1);
        Due.told(x, x.cell(0, 0, 1), 7);
        // of no places
        x.row(5, 0);
        Due.is(x.mark(0, 1), NONE);
        Due.is(x.step(0, 1), 1);
        Due.told(x, x.cell(0, 0, 1), 7);
        Due.told(x, x.told(0, 6), 30);
        // a TIDE may name a ROW that is missing
        Due.is(x.tear(4), 1);
        Due.is(x.tide(0, 4, 9), 1);
        Due.is(x.step(0, 1), 1);
        Due.told(x, x.cell(0, 0, 1), 7);
    }

    private static void tideRowAsItIsThen() {
        Due.says("a ROW (.. as it is then ..); STEPS modulo the places of its ROW tells a place");
        SeaCells x = new SeaCells();
        x.board(0, 1, 2, 1);
        x.gate(0, 0, true);
        Due.rowOf(x, 0, 10, 20, 30);
        x.tide(0, 0, 0);
        int[] due = {10, 20, 30, 10, 20};
        for (int level : due) {
            Due.told(x, x.mark(0, 1), level);
            x.step(0, 1);
            Due.told(x, x.cell(0, 0, 1), level);
        }
        x.lay(0, 2, 77);
        Due.told(x, x.mark(0, 1), 77);
        x.step(0, 1);
        Due.told(x, x.cell(0, 0, 1), 77);
        // 6 STEPS are done: of 4 places number 2 is next, of 7 the last, of one the only one
        Due.rowOf(x, 0, 1, 2, 3, 4);
        Due.told(x, x.mark(0, 1), 3);
        Due.rowOf(x, 0, 1, 2, 3, 4, 5, 6, 7);
        Due.told(x, x.mark(0, 1), 7);
        x.step(0, 2);
        Due.told(x, x.cell(0, 0, 1), 1);
        Due.rowOf(x, 0, 44);
        x.step(0, 1);
        Due.told(x, x.cell(0, 0, 1), 44);
    }

    private static void mores() {
        Due.says("a MORE (-500 .. 500; 0 at first): that, and MORE, is the LEVEL of THE RIM");
        SeaCells x = new SeaCells();
        x.board(0, 1, 2, 1);
        x.gate(0, 0, true);
        Due.rowOf(x, 0, 600);
        int[] mores = {-500, 500, -499, 499, 0};
        for (int more : mores) {
            Due.is(x.tide(0, 0, more), 1);
            Due.told(x, x.mark(0, 1), 600 + more);
            x.step(0, 1);
            Due.told(x, x.cell(0, 0, 1), 600 + more);
        }
        for (int more : new int[] {-501, 501}) Due.is(x.tide(0, 0, more), -1);
        Due.told(x, x.mark(0, 1), 600);
    }

    private static void boatsAndGaugesAreEight() {
        Due.says("BOATS 0 .. 7 (missing at first): on a BOARD, a CELL, a DRAUGHT (1 .. 1000). GAUGES 0 .. 7 (missing at first)");
        SeaCells x = new SeaCells();
        x.board(0, 0, 8, 1);
        for (int k = 0; k < 8; k++) {
            Due.is(x.where(k), NONE);
            Due.is(x.reading(k, 0), NONE);
            Due.is(x.lose(k, 0), SeaCells.STATE);
            Due.is(x.boat(k, 0, k, k % 2 == 0 ? 1 : 1000), 0);
            Due.is(x.gauge(k, 0, 7 - k), 0);
        }
        Due.is(x.count(3), 8);
        Due.is(x.count(4), 8);
        for (int c = 0; c < 8; c++) x.bottom(0, c, 10 * c);
        x.step(0, 1);
        for (int k = 0; k < 8; k++) {
            Due.is(x.where(k), k);
            Due.told(x, x.reading(k, 0), 70 - 10 * k);
        }
    }
}
