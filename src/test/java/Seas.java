/** Objects of SeaCells in plain states, from which a test goes on. */
final class Seas {
    private static final int NONE = -9;

    private Seas() {
    }

    /** BOARD 0 of two CELLS with so much WATER. */
    static SeaCells two(int left, int right) {
        SeaCells x = new SeaCells();
        x.board(0, 0, 2, 1);
        x.water(0, 0, left);
        x.water(0, 1, right);
        return x;
    }

    /** BOARD 0 of CELLS in one line with so much WATER. */
    static SeaCells line(int... water) {
        SeaCells x = new SeaCells();
        x.board(0, 0, water.length, 1);
        for (int c = 0; c < water.length; c++) x.water(0, c, water[c]);
        return x;
    }

    /** BOARD 0 of 3 by 3 CELLS, the one in the middle with 400: 100 leads away each way. */
    static SeaCells star() {
        SeaCells x = new SeaCells();
        x.board(0, 0, 3, 3);
        x.water(0, 4, 400);
        return x;
    }

    /** BOARD 0 is a TIDAL one that its TIDE (ROW 0) alone moves; GAUGE 0 has read these LEVELS in CELL 0. */
    static SeaCells led(int... levels) {
        SeaCells x = new SeaCells();
        x.board(0, 1, 2, 1);
        x.bottom(0, 0, -1000);
        x.gate(0, 0, true);
        Due.rowOf(x, 0, levels);
        x.tide(0, 0, 0);
        x.gauge(0, 0, 0);
        x.step(0, levels.length);
        return x;
    }

    /** NEST 1 of four CELLS on CELL 1 of BOARD 0, which has so much WATER; the fine ones have these. */
    static SeaCells nested(int beneath, int... fine) {
        SeaCells x = new SeaCells();
        x.board(0, 0, 2, 1);
        x.water(0, 1, beneath);
        x.nest(1, 0, 1, 0, 1, 1);
        for (int i = 0; i < 4; i++) x.water(1, i, fine[i]);
        return x;
    }

    /** Something of all; ROWS 4, 5, TEXTS 3 to 5, BOARD 5, BOATS and GAUGES from 3 on are missing. */
    static SeaCells rich() {
        SeaCells x = new SeaCells();
        x.board(0, 0, 4, 3);
        for (int c = 0; c < 12; c++) x.water(0, c, 20 + 37 * c % 101);
        x.bottom(0, 5, 40);
        x.spill(0, 6, 1, 500);
        x.law(0, 5, 7);
        x.wind(0, 3, -2);
        x.gate(0, 2, true);
        for (int k = 0; k < 4; k++) x.river(0, 2 * k, 10 + k);
        for (int side : new int[] {0, 1, 3, 8}) x.post(0, side);
        x.board(1, 1, 3, 2);
        Due.rowOf(x, 0, 40, 60, 50);
        x.tide(1, 0, 5);
        x.nest(2, 0, 1, 1, 2, 1);
        x.nest(3, 2, 0, 0, 1, 1);
        x.board(4, 3, 2, 2);
        x.water(4, 0, 50);
        x.boat(0, 0, 5, 2);
        x.boat(1, 1, 0, 1);
        x.gauge(0, 0, 6);
        x.gauge(1, 1, 1);
        x.step(0, 6);
        x.step(1, 3);
        x.step(2, 2);
        x.water(2, 0, 6);
        x.up(2);
        x.water(2, 1, 4);
        x.gauge(2, 0, 0);
        x.lose(0, 2);
        Due.rowOf(x, 1, 45, NONE, 70);
        x.row(2, 0);
        Due.rowOf(x, 3, NONE);
        Due.write(x, 0, "S2W5S3");
        Due.write(x, 1, "S");
        x.text(2, 0);
        x.world(0, 7);
        x.world(2, 3);
        x.alarm(0, 6, 60);
        x.tone(0, 4);
        x.mean(1);
        return x;
    }

    /** All that an object like rich() shows in some calls, in one number: they change it. */
    static long shown(SeaCells x) {
        long h = x.asked();
        h = 31 * h + x.strength();
        h = 31 * h + x.upper();
        h = 31 * h + x.lower();
        h = 31 * h + x.digest();
        for (int what = 0; what <= 5; what++) h = 31 * h + x.count(what);
        h = and(x, h, x.part(false));
        h = and(x, h, x.part(true));
        h = and(x, h, x.mark(1, 1));
        h = and(x, h, x.mark(2, 2));
        h = and(x, h, x.mark(3, 2));
        h = and(x, h, x.mark(4, 3));
        h = and(x, h, x.fit(0, 6, 1));
        h = 31 * h + x.alarm(0, 6, 62);
        h = 31 * h + x.upper();
        h = 31 * h + x.gates(0, 5, 120);
        h = 31 * h + x.gates(0, 1, 100);
        h = 31 * h + x.upper();
        for (int b = 0; b < 5; b++) h = 31 * h + x.step(b, 3);
        h = 31 * h + x.digest();
        h = and(x, h, x.up(3));
        h = and(x, h, x.up(2));
        h = and(x, h, x.down(2));
        h = 31 * h + x.play(0, 0);
        h = 31 * h + x.post(0, 0);
        h = 31 * h + x.post(1, 0);
        h = 31 * h + x.river(0, 0, 1);
        h = 31 * h + x.river(4, 0, 1);
        h = 31 * h + x.drop(0);
        h = 31 * h + x.forget();
        return 31 * h + x.digest();
    }

    private static long and(SeaCells x, long h, int answer) {
        return 31 * (31 * h + answer) + x.asked();
    }
}
