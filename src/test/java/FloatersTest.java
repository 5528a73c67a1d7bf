/** Promises 28 to 35: BOATS, GAUGES, TONES. */
public final class FloatersTest {
    private static final int BAD = -1, STATE = -4, NONE = -9;
    private static final int NOTHING = 1, BEYOND = 2, NOUGHT = 4;

    public static void main(String[] args) {
        boat();
        where();
        gauge();
        reading();
        readingsKept();
        lose();
        tone();
        toneRefused();
        theTone();
        part();
        Due.end();
    }

    private static void boat() {
        SeaCells x = new SeaCells();
        Due.finds(x, () -> x.boat(0, 0, 0, 1), NOTHING);
        Due.refused(x, () -> x.boat(0, 0, 0, 0), BAD);
        x.board(0, 0, 3, 2);
        x.board(1, 1, 2, 1);
        int[][] bad = {{-1, 0, 0, 1}, {8, 0, 0, 1}, {0, -1, 0, 1}, {0, 6, 0, 1}, {0, 0, 9, 0}, {0, 0, 0, 1001}};
        for (int[] k : bad) Due.refused(x, () -> x.boat(k[0], k[1], k[2], k[3]), BAD);
        Due.finds(x, () -> x.boat(0, 0, 6, 1), BEYOND);
        Due.finds(x, () -> x.boat(0, 0, -1, 1), BEYOND);
        Due.finds(x, () -> x.boat(0, 1, 2, 1), BEYOND);
        Due.is(x.count(3), 0);
        Due.is(x.boat(0, 0, 5, 1000), 0);
        Due.is(x.boat(0, 0, 5, 1), 1);
        Due.is(x.boat(0, 1, 1, 1), 1);
        Due.is(x.where(0), 1);
        Due.is(x.boat(7, 0, 2, 1), 0);
        Due.is(x.count(3), 2);
        Due.refused(x, () -> x.boat(7, 1, 2, 1), -3);
        Due.is(x.where(7), 2);
        // the DRAUGHT that it has now counts
        x.water(0, 2, 100);
        x.boat(7, 0, 2, 46);
        x.step(0, 1);
        Due.is(x.where(7), 2);
        x.water(0, 2, 1000);
        x.boat(7, 0, 2, 45);
        x.step(0, 1);
        Due.is(x.where(7), 5);
    }

    private static void where() {
        SeaCells x = new SeaCells();
        Due.refused(x, () -> x.where(8), BAD);
        Due.refused(x, () -> x.where(-1), BAD);
        Due.is(x.where(7), NONE);
        x.board(2, 0, 3, 2);
        x.boat(7, 2, 4, 9);
        Due.is(x.where(7), 4);
        x.drop(2);
        Due.is(x.where(7), NONE);
        Due.is(x.finding(), 0);
    }

    private static void gauge() {
        SeaCells x = new SeaCells();
        Due.finds(x, () -> x.gauge(0, 0, 0), NOTHING);
        x.board(0, 0, 3, 2);
        int[][] bad = {{-1, 0, 0}, {8, 0, 0}, {0, -1, 0}, {0, 6, 9}, {8, 0, 9}};
        for (int[] k : bad) Due.refused(x, () -> x.gauge(k[0], k[1], k[2]), BAD);
        Due.finds(x, () -> x.gauge(0, 0, 6), BEYOND);
        Due.finds(x, () -> x.gauge(0, 0, -1), BEYOND);
        Due.is(x.gauge(7, 0, 5), 0);
        Due.is(x.count(4), 1);
        x.bottom(0, 5, 33);
        x.step(0, 2);
        Due.told(x, x.reading(7, 1), 33);
        x.lose(7, 1);
        Due.refused(x, () -> x.gauge(7, 0, 6), -3);
        Due.told(x, x.reading(7, 0), 33);
        Due.is(x.gauge(7, 0, 4), 1);
        Due.is(x.reading(7, 0), NONE);
        x.step(0, 2);
        Due.told(x, x.reading(7, 0), 0);
        Due.told(x, x.reading(7, 1), 0);
        Due.is(x.reading(7, 2), NONE);
        x.drop(0);
        Due.is(x.reading(7, 0), NONE);
        Due.is(x.count(4), 0);
        x.board(0, 0, 2, 1);
        Due.is(x.gauge(7, 0, 1), 0);
    }

    private static void reading() {
        SeaCells x = new SeaCells();
        Due.refused(x, () -> x.reading(-1, 0), BAD);
        Due.refused(x, () -> x.reading(8, 0), BAD);
        Due.is(x.reading(0, 0), NONE);
        SeaCells y = led(1, -9, 100);
        Due.told(y, y.reading(0, 0), 100);
        Due.told(y, y.reading(0, 1), -9);
        Due.told(y, y.reading(0, 2), 1);
        Due.is(y.reading(0, 3), NONE);
        Due.is(y.reading(0, -1), NONE);
        Due.is(y.reading(0, Integer.MAX_VALUE), NONE);
        Due.is(y.reading(0, Integer.MIN_VALUE), NONE);
        y.lose(0, 1);
        Due.is(y.reading(0, 1), NONE);
        Due.is(y.asked(), 1);
        Due.is(y.finding(), 0);
    }

    /** GAUGE 0 has read these LEVELS, led by a TIDE. */
    private static SeaCells led(int... levels) {
        SeaCells x = new SeaCells();
        x.board(0, 1, 2, 1);
        x.bottom(0, 0, -1000);
        x.gate(0, 0, true);
        Due.rowOf(x, 0, levels);
        x.tide(0, 0, 0);
        x.gauge(0, 0, 0);
        x.step(0, levels.length);
        return x;
    }

    private static void readingsKept() {
        int[] levels = new int[48];
        for (int i = 0; i < 48; i++) levels[i] = 10 * i;
        SeaCells x = led(levels);
        for (int i = 0; i < 48; i++) Due.told(x, x.reading(0, i), 10 * (47 - i));
        Due.is(x.reading(0, 48), NONE);
        x.lose(0, 47);
        x.lose(0, 46);
        x.lay(0, 0, 7);
        x.step(0, 1);
        Due.told(x, x.reading(0, 0), 7);
        Due.is(x.reading(0, 47), NONE);
        Due.told(x, x.reading(0, 46), 20);
        Due.is(x.reading(0, 48), NONE);
        x.step(0, 100);
        // what was LOST has gone by: 149 STEPS are done, the latest by place 4
        for (int i = 0; i < 48; i++) Due.told(x, x.reading(0, i), i == 4 ? 7 : 10 * ((52 - i) % 48));
        Due.is(x.reading(0, 48), NONE);
    }

    private static void lose() {
        SeaCells x = new SeaCells();
        Due.refused(x, () -> x.lose(-1, 0), BAD);
        Due.refused(x, () -> x.lose(8, 0), BAD);
        Due.refused(x, () -> x.lose(0, 0), STATE);
        SeaCells y = led(5, 6, 7);
        Due.refused(y, () -> y.lose(0, 3), STATE);
        Due.refused(y, () -> y.lose(0, -1), STATE);
        Due.refused(y, () -> y.lose(0, Integer.MAX_VALUE), STATE);
        Due.is(y.lose(0, 0), 1);
        Due.refused(y, () -> y.lose(0, 0), STATE);
        Due.is(y.reading(0, 0), NONE);
        Due.told(y, y.reading(0, 1), 6);
        Due.is(y.lose(0, 2), 1);
        Due.is(y.reading(0, 2), NONE);
        y.step(0, 1);
        Due.told(y, y.reading(0, 0), 5);
        Due.refused(y, () -> y.lose(0, 1), STATE);
        Due.is(y.lose(0, 2), 1);
        Due.is(y.finding(), 0);
    }

    private static void tone() {
        SeaCells x = led(1, 10, 100, 1000);
        Due.is(x.tone(0, 4), 1);
        // C: 1 + 10 - 100 - 1000; S: 1 - 10 - 100 + 1000
        Due.is(x.strength(), 1089L * 1089 + 891 * 891);
        Due.told(x, x.part(false), -1089);
        Due.told(x, x.part(true), 891);
        Due.is(x.tone(0, 8), 1);
        Due.told(x, x.part(false), 1111);
        Due.told(x, x.part(true), -1089);
        Due.is(x.tone(0, 48), 1);
        Due.told(x, x.part(false), 1111);
        Due.told(x, x.part(true), 1111);
        // LOST ones count as places
        x.lose(0, 3);
        x.tone(0, 4);
        Due.told(x, x.part(false), -1090);
        Due.told(x, x.part(true), 890);
        x.lose(0, 1);
        x.tone(0, 4);
        Due.told(x, x.part(false), 10 - 1000);
        Due.told(x, x.part(true), -10 + 1000);
        Due.is(x.strength(), 2L * 990 * 990);
        // longs
        int[] high = new int[48];
        for (int i = 0; i < 48; i++) high[i] = i % 4 < 2 ? 99000 : -1000;
        SeaCells y = led(high);
        y.tone(0, 4);
        Due.told(y, y.part(false), 2400000);
        Due.told(y, y.part(true), 0);
        Due.is(y.strength(), 2400000L * 2400000L);
    }

    private static void toneRefused() {
        SeaCells x = new SeaCells();
        for (int p : new int[] {0, -4, 2, 6, 46, 50, 52}) {
            Due.refused(x, () -> x.tone(0, p), BAD);
        }
        Due.refused(x, () -> x.tone(8, 4), BAD);
        Due.refused(x, () -> x.tone(-1, 4), BAD);
        Due.refused(x, () -> x.tone(0, 4), STATE);
        Due.refused(x, () -> x.theTone(8), BAD);
        Due.refused(x, () -> x.theTone(-1), BAD);
        Due.refused(x, () -> x.theTone(0), STATE);
        x.board(0, 0, 2, 1);
        x.gauge(0, 0, 0);
        Due.finds(x, () -> x.tone(0, 4), NOUGHT);
        Due.finds(x, () -> x.theTone(0), NOUGHT);
        Due.refused(x, () -> x.tone(0, 6), BAD);
        x.step(0, 2);
        x.lose(0, 0);
        Due.is(x.tone(0, 4), 1);
        x.lose(0, 1);
        Due.finds(x, () -> x.tone(0, 4), NOUGHT);
        Due.finds(x, () -> x.theTone(0), NOUGHT);
    }

    private static void theTone() {
        for (int p = 4; p <= 48; p += 4) {
            int[] levels = new int[48];
            for (int i = 0; i < 48; i++) levels[i] = i % p < p / 2 ? 50 : -50;
            SeaCells x = led(levels);
            Due.is(x.theTone(0), p);
            // nor does it tell what tone() tells
            Due.is(x.strength(), 0);
            Due.is(x.part(false), STATE);
        }
        Due.is(led(0, 0, 0).theTone(0), 4);
        Due.is(led(5).theTone(0), 4);
        // of 12 and more alike ones the least: three READINGS, all ahead of half of it
        Due.is(led(1, 1, 1).theTone(0), 12);
    }

    private static void part() {
        SeaCells x = new SeaCells();
        Due.refused(x, () -> x.part(true), STATE);
        Due.refused(x, () -> x.part(false), STATE);
        SeaCells y = led(7, 20);
        y.tone(0, 4);
        Due.told(y, y.part(false), 27);
        Due.told(y, y.part(true), -13);
        Due.is(y.strength(), 27 * 27 + 13 * 13);
        // of the latest tone(), whatever comes behind it
        Due.is(y.tone(1, 4), STATE);
        y.step(0, 1);
        y.drop(0);
        Due.is(y.tone(0, 4), STATE);
        Due.told(y, y.part(false), 27);
        Due.told(y, y.part(true), -13);
        Due.is(y.strength(), 27 * 27 + 13 * 13);
    }
}
