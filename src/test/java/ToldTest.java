/** Promises 47 to 54: what is told, counted, found, and the digest; and the constants. */
public final class ToldTest {
    private static final int NOTHING = 1, BEYOND = 2, UNLIKE = 3, NOUGHT = 4, SIZE = 5;

    public static void main(String[] args) {
        constants();
        asked();
        askedStays();
        strength();
        fractions();
        count();
        findings();
        digestOfNothing();
        digestOfRows();
        digestOfBoards();
        digestOfFloaters();
        Due.end();
    }

    private static void constants() {
        Due.is(SeaCells.BAD, -1);
        Due.is(SeaCells.FULL, -2);
        Due.is(SeaCells.FINDING, -3);
        Due.is(SeaCells.STATE, -4);
        Due.is(SeaCells.NONE, -9);
    }

    /** A BOARD with something of all, asked() being 4242 then. */
    private static SeaCells rich() {
        SeaCells x = new SeaCells();
        x.board(0, 1, 3, 2);
        for (int c = 0; c < 6; c++) x.water(0, c, 10 + 30 * c);
        x.bottom(0, 1, -7);
        x.spill(0, 5, 2, 99);
        x.gauge(0, 0, 4);
        x.boat(1, 0, 3, 2);
        Due.rowOf(x, 0, 40, 20);
        x.tide(0, 0, 1);
        x.nest(1, 0, 1, 0, 1, 1);
        x.step(0, 3);
        x.tone(0, 8);
        Due.rowOf(x, 5, 4242);
        Due.told(x, x.mean(5), 4242);
        return x;
    }

    private static void asked() {
        SeaCells x = new SeaCells();
        Due.is(x.asked(), 0);
        SeaCells y = rich();
        Due.told(y, y.lay(5, 0, 6), 4242);
        Due.told(y, y.mean(5), 6);
        Due.told(y, y.bottom(0, 1, -8), -7);
        Due.told(y, y.cell(0, 1, 0), -8);
        long flow = Due.tell(y, y.flow(0, 0));
        Due.told(y, y.told(0, 3), 3);
        Due.told(y, y.flow(0, 0), flow);
        Due.told(y, y.mark(0, 1), 21);
        long reading = Due.tell(y, y.reading(0, 0));
        Due.told(y, y.cell(0, 4, 2), reading);
        long part = Due.tell(y, y.part(true));
        Due.told(y, y.told(0, 3), 3);
        Due.told(y, y.part(true), part);
        long beneath = Due.tell(y, y.cell(0, 1, 1));
        for (int i = 0; i < 4; i++) y.water(1, i, 5);
        Due.told(y, y.up(1), 5 - beneath);
        y.water(0, 1, 7);
        Due.told(y, y.down(1), 8);
        // the RIM comes to 21 and 41, the ROW has 40 and 20
        Due.is(y.fit(0, 0, 0), 1);
        Due.is(y.asked(), 40);
    }

    private static void askedStays() {
        SeaCells x = rich();
        Due.write(x, 0, "S1");
        x.world(0, 5);
        x.post(0, 0);
        x.row(1, 2);
        x.copy(0, 0, 1, 0, 2);
        x.put(0, 0, 'S');
        x.fault(0);
        x.water(0, 0, 9);
        x.spill(0, 0, 0, 9);
        x.gate(0, 0, true);
        x.law(0, 2, 3);
        x.wind(0, 2, 3);
        x.river(0, 2, 3);
        x.step(0, 2);
        x.keep(0, 3);
        x.mirror(3);
        x.where(1);
        x.lose(0, 0);
        x.tone(0, 4);
        x.theTone(0);
        x.ends(0, 0, 0, 5);
        x.play(0, 0);
        x.alarm(0, 0, 0);
        x.gates(0, 0, 0);
        x.count(0);
        x.findings(1);
        x.digest();
        x.lay(0, 9, 1);
        x.mean(4);
        x.bottom(0, 9, 1);
        x.cell(0, 9, 1);
        x.flow(0, 99);
        x.told(5, 0);
        x.mark(0, 3);
        x.reading(0, 47);
        x.up(0);
        x.down(5);
        x.fit(0, 0, 4);
        x.tear(0);
        x.mark(0, 1);
        x.nest(1, 0, 0, 0, 1, 1);
        Due.is(x.asked(), 4242);
    }

    private static void strength() {
        SeaCells x = rich();
        long strength = x.strength();
        Due.is(strength > 0 ? 1 : 0, 1);
        Due.is(x.tone(0, 7), -1);
        Due.is(x.tone(1, 8), -4);
        x.gauge(2, 0, 0);
        Due.finds(x, () -> x.tone(2, 8), NOUGHT);
        x.theTone(0);
        Due.is(x.strength(), strength);
        x.step(0, 1);
        Due.is(x.tone(2, 8), 1);
        Due.is(x.strength(), 2 * 21 * 21);
    }

    private static void fractions() {
        SeaCells x = rich();
        Due.is(x.upper(), 0);
        Due.is(x.lower(), 1);
        Due.write(x, 0, "S1");
        x.world(0, 15);
        x.world(0, 6);
        Due.write(x, 0, "T-500S1");
        x.world(0, 9);
        // the RIM is led to 21, or to none
        x.alarm(0, 0, 21);
        Due.is(x.upper(), 7);
        Due.is(x.lower(), 10);
        x.alarm(0, 9, 0);
        x.alarm(0, 0, 200000);
        x.fit(0, 0, 0);
        Due.is(x.upper(), 7);
        Due.is(x.lower(), 10);
        x.gates(0, 0, 22);
        Due.is(x.upper(), 0);
        Due.is(x.lower(), 1);
        x.alarm(0, 0, 0);
        Due.is(x.upper(), 1);
        Due.is(x.lower(), 1);
        x.forget();
        x.alarm(0, 0, 0);
        Due.is(x.upper(), 1);
    }

    private static void count() {
        SeaCells x = rich();
        int[] due = {2, 0, 2, 1, 1, 0};
        for (int what = 0; what < 6; what++) Due.is(x.count(what), due[what]);
        x.text(5, 0);
        x.world(5, 1);
        Due.is(x.count(1), 1);
        Due.is(x.count(5), 1);
        Due.refused(x, () -> x.count(6), -1);
        Due.refused(x, () -> x.count(-1), -1);
        for (int k = 0; k < 8; k++) x.boat(k, 0, 0, 1);
        for (int k = 0; k < 7; k++) x.gauge(k, 0, 0);
        for (int k = 0; k < 6; k++) x.row(k, 0);
        for (int k = 0; k < 6; k++) x.text(k, 0);
        for (int k = 0; k < 6; k++) x.board(k, 0, 2, 1);
        Due.is(x.count(0), 6);
        Due.is(x.count(1), 6);
        Due.is(x.count(2), 6);
        Due.is(x.count(3), 0);
        Due.is(x.count(4), 0);
        for (int k = 0; k < 8; k++) x.boat(k, 5, 0, 1);
        for (int k = 0; k < 7; k++) x.gauge(k, 5, 0);
        Due.is(x.count(3), 8);
        Due.is(x.count(4), 7);
    }

    private static void findings() {
        SeaCells x = new SeaCells();
        for (int f : new int[] {0, 6, -1}) Due.refused(x, () -> x.findings(f), -1);
        x.tear(0);
        x.tear(0);
        x.row(0, -1);
        x.row(0, 1);
        Due.is(x.finding(), SIZE);
        x.lay(0, 1, 0);
        Due.is(x.finding(), BEYOND);
        x.board(0, 0, 2, 1);
        x.up(0);
        Due.is(x.finding(), UNLIKE);
        x.alarm(0, 0, 0);
        Due.is(x.finding(), NOUGHT);
        x.tear(9);
        x.lose(0, 0);
        x.reading(0, 0);
        Due.is(x.finding(), NOUGHT);
        x.drop(5);
        Due.is(x.finding(), NOTHING);
        int[] due = {3, 1, 1, 1, 1};
        for (int f = 1; f <= 5; f++) Due.is(x.findings(f), due[f - 1]);
    }

    private static long fold(long h, long... values) {
        long all = h;
        for (long v : values) all = 31 * all + v;
        return all;
    }

    private static long missing(long h, int times) {
        long all = h;
        for (int i = 0; i < times; i++) all = fold(all, -1);
        return all;
    }

    private static void digestOfNothing() {
        Due.is(new SeaCells().digest(), missing(17, 6 + 8 + 8 + 6 + 6));
    }

    private static void digestOfRows() {
        SeaCells x = new SeaCells();
        Due.rowOf(x, 1, 5, -9, 100000);
        x.row(4, 0);
        x.text(0, 2);
        x.put(0, 1, 200);
        long h = missing(17, 22);
        h = fold(h, -1, 3, 5, -9, 100000, -1, -1, 0, -1);
        h = fold(h, 2, 32, -56, -1, -1, -1, -1, -1);
        Due.is(x.digest(), h);
        x.tear(1);
        x.burn(0);
        h = fold(missing(17, 22), -1, -1, -1, -1, 0, -1);
        Due.is(x.digest(), missing(h, 6));
    }

    private static void digestOfBoards() {
        SeaCells x = new SeaCells();
        x.board(1, 3, 2, 2);
        x.bottom(1, 1, 8);
        x.water(1, 2, 100);
        x.spill(1, 2, 0, 50);
        x.spill(1, 3, 1, 60);
        x.spill(1, 3, 2, 70);
        x.gate(1, 4, true);
        x.river(1, 0, 9);
        x.wind(1, 5, 5);
        Due.rowOf(x, 0, 30);
        x.tide(1, 0, 1);
        x.lay(0, 0, 31);
        x.step(1, 1);
        // 45 goes from CELL 2 down, then CELL 0 with 54 is led to 32, CELL 2 with 55, too
        int asked = x.asked();
        long h = missing(17, 1);
        h = fold(h, 3, 2, 2, 1, 64, 9, 32 - 54 + 32 - 55, 50, 60, 70, 2);
        h = fold(h, 0, 32, 22, 0, 0, 8, 0, 0, 0, 0, 0, 32, 28, 0, 0, 0, 0, 0, 60, 70);
        h = fold(h, 0, 0, -45, 0, 0, 0, 0, 1);
        h = missing(h, 4 + 16);
        h = fold(h, 1, 31, -1, -1, -1, -1, -1);
        Due.is(x.digest(), missing(h, 6));
        Due.is(x.asked(), asked);
    }

    private static void digestOfFloaters() {
        SeaCells x = new SeaCells();
        x.board(0, 0, 2, 1);
        x.water(0, 0, 100);
        x.boat(2, 0, 0, 46);
        x.boat(7, 0, 0, 45);
        x.gauge(1, 0, 1);
        x.step(0, 2);
        x.lose(1, 1);
        x.gauge(7, 0, 0);
        long h = fold(17, 0, 2, 1, 2, 100, 0, 0, 0, 0, 0, 0);
        h = fold(h, 0, 10, 0, 0, 0, 0, 90, 0, 0, 0, 45, 0);
        h = missing(h, 5);
        h = fold(h, -1, -1, 0, 0, 46, -1, -1, -1, -1, 0, 1, 45);
        h = fold(h, -1, 0, 1, 2, -9, 90, -1, -1, -1, -1, -1, 0, 0, 0);
        Due.is(x.digest(), missing(h, 12));
    }
}
