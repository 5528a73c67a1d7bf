/** Promise 23, with part 2 of the terms: STEPS of a BOARD. */
public final class StepsTest {
    private static final int BAD = -1;
    private static final int NOTHING = 1;

    public static void main(String[] args) {
        refusals();
        cuts();
        winds();
        dryCells();
        rims();
        bottoms();
        allAtOnce();
        outOfWater();
        stuffs();
        stuffsInChains();
        rivers();
        tides();
        tideEdges();
        tooMuch();
        tooMuchByRivers();
        boatsDrift();
        boatsChoose();
        gaugesRead();
        Due.end();
    }

    private static void refusals() {
        SeaCells x = new SeaCells();
        Due.finds(x, () -> x.step(0, 1), NOTHING);
        Due.refused(x, () -> x.step(0, 201), BAD);
        x.board(0, 0, 2, 1);
        Due.refused(x, () -> x.step(0, 201), BAD);
        Due.refused(x, () -> x.step(0, -1), BAD);
        Due.refused(x, () -> x.step(6, 1), BAD);
        Due.refused(x, () -> x.step(-1, 1), BAD);
        Due.is(x.step(0, 0), 0);
        Due.told(x, x.told(0, 3), 0);
        Due.is(x.step(0, 200), 200);
        Due.told(x, x.told(0, 3), 200);
    }

    /** A BOARD of two CELLS with so much WATER. */
    private static SeaCells two(int left, int right) {
        SeaCells x = new SeaCells();
        x.board(0, 0, 2, 1);
        x.water(0, 0, left);
        x.water(0, 1, right);
        return x;
    }

    private static void stepsTo(SeaCells x, int flow, int left, int right) {
        Due.is(x.step(0, 1), 1);
        Due.told(x, x.flow(0, 0), flow);
        Due.told(x, x.cell(0, 0, 1), left);
        Due.told(x, x.cell(0, 1, 1), right);
    }

    private static void cuts() {
        SeaCells x = two(10, 13);
        stepsTo(x, -1, 11, 12);
        stepsTo(x, -1, 12, 11);
        stepsTo(x, -1, 13, 10);
        stepsTo(x, 0, 13, 10);
        stepsTo(x, 1, 12, 11);
        stepsTo(two(100, 138), -18, 118, 120);
        stepsTo(two(138, 100), 18, 120, 118);
        SeaCells y = two(100, 0);
        stepsTo(y, 45, 55, 45);
        stepsTo(y, 45, 10, 90);
        stepsTo(y, 5, 5, 95);
        stepsTo(y, -36, 41, 59);
        // PULL comes before the eighth is taken: 3 times 5 by 8
        SeaCells z = two(15, 10);
        z.law(0, 3, 1000);
        stepsTo(z, 1, 14, 11);
        SeaCells v = two(31, 10);
        v.law(0, 1, 2);
        stepsTo(v, 1, 30, 11);
    }

    private static void winds() {
        SeaCells x = two(13, 10);
        x.wind(0, -2, 50);
        stepsTo(x, -1, 14, 9);
        SeaCells y = new SeaCells();
        y.board(0, 3, 2, 2);
        for (int c = 0; c < 4; c++) y.water(0, c, 100);
        y.wind(0, 50, -50);
        y.step(0, 1);
        for (int side : new int[] {0, 1, 3, 4}) Due.told(y, y.flow(0, side), 0);
        y.board(0, 1, 2, 2);
        for (int c = 0; c < 4; c++) y.water(0, c, 100);
        y.wind(0, 50, -40);
        y.step(0, 1);
        Due.told(y, y.flow(0, 0), 45);
        Due.told(y, y.flow(0, 1), -36);
        Due.told(y, y.flow(0, 3), -36);
        Due.told(y, y.flow(0, 4), 45);
        // two go out of CELL 2 (45 to the right, 36 down), one into it none
        Due.told(y, y.cell(0, 2, 1), 19);
        Due.told(y, y.cell(0, 1, 1), 181);
    }

    private static void dryCells() {
        SeaCells x = two(0, 10);
        x.wind(0, 50, 0);
        stepsTo(x, 0, 0, 10);
        SeaCells y = two(10, 0);
        y.wind(0, -50, 0);
        stepsTo(y, 0, 10, 0);
        SeaCells z = two(1, 10);
        z.wind(0, 50, 0);
        stepsTo(z, 1, 0, 11);
        SeaCells v = two(10, 1);
        v.wind(0, -50, 0);
        stepsTo(v, -1, 11, 0);
        SeaCells w = new SeaCells();
        w.board(0, 0, 2, 2);
        w.water(0, 2, 10);
        w.wind(0, 0, 50);
        w.step(0, 1);
        Due.told(w, w.flow(0, 1), 0);
    }

    private static void rims() {
        SeaCells x = two(0, 10);
        x.bottom(0, 0, 100);
        stepsTo(x, 0, 0, 10);
        // one that is dry and high has nothing to give, whatever its LEVEL
        SeaCells y = two(10, 0);
        y.bottom(0, 1, 500);
        stepsTo(y, 0, 10, 0);
    }

    private static void bottoms() {
        SeaCells x = two(100, 0);
        x.bottom(0, 1, 100);
        x.wind(0, 10, 0);
        stepsTo(x, 0, 100, 0);
        SeaCells y = two(100, 0);
        y.bottom(0, 1, 99);
        y.wind(0, 10, 0);
        stepsTo(y, 9, 91, 9);
        SeaCells z = two(0, 100);
        z.bottom(0, 0, 100);
        z.wind(0, -10, 0);
        stepsTo(z, 0, 0, 100);
        SeaCells v = two(0, 100);
        v.bottom(0, 0, 99);
        v.wind(0, -10, 0);
        stepsTo(v, -9, 9, 91);
        // the BOTTOM of the CELL it leads to, by the LEVEL of the one it leads from
        SeaCells w = two(20, 90);
        w.bottom(0, 0, 50);
        w.wind(0, 50, 0);
        stepsTo(w, 20, 0, 110);
        SeaCells u = two(20, 10);
        u.bottom(0, 1, 70);
        u.wind(0, 50, 0);
        stepsTo(u, 0, 20, 10);
    }

    private static void allAtOnce() {
        SeaCells x = new SeaCells();
        x.board(0, 0, 4, 1);
        x.water(0, 0, 80);
        x.water(0, 1, 40);
        x.step(0, 1);
        // by LEVELS as they were: 40 by 2 and 40 by 2, less a tenth; 0 and 0 stay
        Due.told(x, x.flow(0, 0), 18);
        Due.told(x, x.flow(0, 2), 18);
        Due.told(x, x.flow(0, 4), 0);
        Due.told(x, x.cell(0, 0, 1), 62);
        Due.told(x, x.cell(0, 1, 1), 40);
        Due.told(x, x.cell(0, 2, 1), 18);
    }

    private static void outOfWater() {
        SeaCells x = new SeaCells();
        x.board(0, 0, 3, 1);
        x.bottom(0, 1, 100);
        x.water(0, 1, 10);
        x.bottom(0, 2, 50);
        x.step(0, 1);
        // 55 less 5 and 30 less 3: 77 together, of 10: 6 and 3
        Due.told(x, x.flow(0, 0), -6);
        Due.told(x, x.flow(0, 2), 3);
        Due.told(x, x.cell(0, 0, 1), 6);
        Due.told(x, x.cell(0, 1, 1), 1);
        Due.told(x, x.cell(0, 2, 1), 3);
        // as much as there is, is not too much
        SeaCells y = two(45, 0);
        y.bottom(0, 0, 55);
        stepsTo(y, 45, 0, 45);
        // far more than an int holds on the way
        SeaCells z = new SeaCells();
        z.board(0, 0, 3, 1);
        z.law(0, 8, 1000);
        z.bottom(0, 1, 1000);
        z.water(0, 1, 100000);
        z.bottom(0, 0, -1000);
        z.bottom(0, 2, -1000);
        z.step(0, 1);
        Due.told(z, z.flow(0, 0), -50000);
        Due.told(z, z.flow(0, 2), 50000);
        Due.told(z, z.cell(0, 1, 1), 0);
    }

    private static void stuffs() {
        SeaCells x = two(90, 0);
        x.law(0, 8, 2);
        x.spill(0, 0, 0, 7);
        x.spill(0, 0, 1, 1);
        x.spill(0, 0, 2, 100000);
        stepsTo(x, 45, 45, 45);
        Due.told(x, x.cell(0, 0, 3), 4);
        Due.told(x, x.cell(0, 1, 3), 3);
        Due.told(x, x.cell(0, 0, 4), 1);
        Due.told(x, x.cell(0, 1, 4), 0);
        Due.told(x, x.cell(0, 0, 5), 50000);
        Due.told(x, x.cell(0, 1, 5), 50000);
        // all the WATER takes all along
        SeaCells y = two(1, 90);
        y.spill(0, 0, 1, 99);
        y.wind(0, 50, 0);
        stepsTo(y, 1, 0, 91);
        Due.told(y, y.cell(0, 0, 4), 0);
        Due.told(y, y.cell(0, 1, 4), 99);
        // more than an int holds on the way
        SeaCells z = two(0, 100000);
        z.spill(0, 1, 0, 100000);
        z.law(0, 8, 1000);
        Due.is(z.step(0, 1), 1);
        Due.told(z, z.cell(0, 0, 3), 99900);
        Due.told(z, z.told(0, 7), 100000);
    }

    private static void stuffsInChains() {
        SeaCells x = new SeaCells();
        x.board(0, 0, 3, 1);
        x.water(0, 0, 80);
        x.water(0, 1, 40);
        x.spill(0, 0, 2, 100);
        x.spill(0, 1, 2, 10);
        x.step(0, 1);
        // 18 of 80 of 100 is 22; 18 of 40 of 10 is 4
        Due.told(x, x.cell(0, 0, 5), 78);
        Due.told(x, x.cell(0, 1, 5), 28);
        Due.told(x, x.cell(0, 2, 5), 4);
        SeaCells y = new SeaCells();
        y.board(0, 0, 3, 1);
        y.law(0, 8, 2);
        y.water(0, 1, 90);
        y.spill(0, 1, 0, 7);
        y.step(0, 1);
        Due.told(y, y.flow(0, 0), -45);
        Due.told(y, y.flow(0, 2), 45);
        Due.told(y, y.cell(0, 0, 3), 3);
        Due.told(y, y.cell(0, 1, 3), 1);
        Due.told(y, y.cell(0, 2, 3), 3);
        // amounts may come together to more than one CELL can be given
        SeaCells z = new SeaCells();
        z.board(0, 0, 3, 1);
        z.bottom(0, 0, 900);
        z.bottom(0, 2, 900);
        z.water(0, 0, 10);
        z.water(0, 2, 10);
        z.spill(0, 0, 0, 100000);
        z.spill(0, 2, 0, 100000);
        z.step(0, 1);
        Due.told(z, z.cell(0, 1, 3), 200000);
        Due.is(z.spill(0, 1, 0, 5), 200000);
    }

    private static void rivers() {
        SeaCells x = two(0, 0);
        x.river(0, 0, 100);
        stepsTo(x, 0, 100, 0);
        stepsTo(x, 45, 155, 45);
        Due.told(x, x.told(0, 5), 200);
    }

    private static void tides() {
        SeaCells x = new SeaCells();
        x.board(0, 1, 2, 3);
        x.bottom(0, 2, 30);
        x.bottom(0, 4, -10);
        x.water(0, 4, 100);
        x.spill(0, 4, 0, 9);
        Due.rowOf(x, 1, 20, 50, 40);
        x.tide(0, 1, -5);
        for (int side = 0; side < 11; side++) x.gate(0, side, true);
        x.step(0, 1);
        Due.told(x, x.cell(0, 0, 1), 15);
        Due.told(x, x.cell(0, 2, 1), 0);
        Due.told(x, x.cell(0, 4, 1), 25);
        Due.told(x, x.cell(0, 4, 3), 9);
        Due.told(x, x.cell(0, 1, 1), 0);
        Due.told(x, x.told(0, 6), 15 - 75);
        x.step(0, 1);
        Due.told(x, x.cell(0, 0, 2), 45);
        Due.told(x, x.cell(0, 2, 1), 15);
        Due.told(x, x.told(0, 6), -60 + 30 + 15 + 30);
        x.step(0, 1);
        Due.told(x, x.cell(0, 0, 2), 35);
        x.step(0, 1);
        Due.told(x, x.cell(0, 0, 2), 15);
        // a place of NONE is a LEVEL as any other
        x.lay(1, 1, -9);
        x.step(0, 1);
        Due.told(x, x.cell(0, 4, 2), -10);
        x.tear(1);
        x.water(0, 0, 77);
        x.step(0, 1);
        Due.told(x, x.cell(0, 0, 1), 77);
        Due.told(x, x.told(0, 3), 6);
        // the ROW as it is then: STEPS are 6
        Due.rowOf(x, 1, 1, 2, 3, 400);
        x.step(0, 1);
        Due.told(x, x.cell(0, 0, 1), 0);
        x.step(0, 1);
        Due.told(x, x.cell(0, 0, 1), 395);
    }

    private static void tideEdges() {
        SeaCells x = new SeaCells();
        x.board(0, 3, 2, 2);
        x.bottom(0, 0, -1000);
        Due.rowOf(x, 0, 100000, -100000, 99000);
        x.tide(0, 0, 0);
        for (int side = 0; side < 6; side++) x.gate(0, side, true);
        x.step(0, 1);
        Due.told(x, x.cell(0, 0, 1), 100000);
        Due.told(x, x.cell(0, 2, 1), 100000);
        Due.told(x, x.told(0, 6), 200000);
        x.step(0, 1);
        Due.told(x, x.cell(0, 0, 1), 0);
        Due.told(x, x.told(0, 6), 0);
        x.step(0, 1);
        Due.told(x, x.cell(0, 0, 1), 100000);
        Due.told(x, x.cell(0, 2, 1), 99000);
        // the RIM is led behind the FLOWS: what goes out of it there is filled again
        SeaCells y = new SeaCells();
        y.board(0, 1, 2, 1);
        y.water(0, 0, 100);
        Due.rowOf(y, 0, 100);
        y.tide(0, 0, 0);
        y.step(0, 1);
        Due.told(y, y.cell(0, 0, 1), 100);
        Due.told(y, y.cell(0, 1, 1), 45);
        Due.told(y, y.told(0, 6), 45);
        // a BOARD that is not TIDAL has no RIM
        SeaCells z = two(50, 50);
        z.row(0, 1);
        z.step(0, 1);
        Due.told(z, z.told(0, 6), 0);
    }

    private static void tooMuch() {
        SeaCells x = two(100000, 99999);
        x.bottom(0, 0, 10);
        x.spill(0, 0, 0, 50);
        x.boat(0, 0, 0, 1);
        x.gauge(0, 0, 0);
        x.river(0, 0, 1);
        // 11 by 2 less a tenth: 5, by which the second CELL would have too much
        Due.is(x.step(0, 3), 0);
        Due.told(x, x.flow(0, 0), 0);
        Due.told(x, x.cell(0, 0, 1), 100000);
        Due.told(x, x.cell(0, 0, 3), 50);
        Due.told(x, x.told(0, 3), 0);
        Due.told(x, x.told(0, 5), 0);
        Due.is(x.where(0), 0);
        Due.is(x.reading(0, 0), -9);
        // as much as can be, but no more
        x.water(0, 1, 99991);
        Due.is(x.step(0, 1), 1);
        Due.told(x, x.cell(0, 1, 1), 100000);
        Due.told(x, x.flow(0, 0), 9);
        // as the FLOWS together leave it: one CELL takes in and lets out
        SeaCells y = new SeaCells();
        y.board(0, 0, 3, 1);
        for (int c = 0; c < 3; c++) y.water(0, c, 100000);
        y.bottom(0, 0, 20);
        y.bottom(0, 1, 10);
        y.water(0, 2, 0);
        Due.is(y.step(0, 1), 1);
        Due.told(y, y.flow(0, 0), 5);
    }

    private static void tooMuchByRivers() {
        SeaCells x = two(99990, 99990);
        x.gate(0, 0, true);
        x.river(0, 1, 4);
        Due.is(x.step(0, 9), 2);
        Due.told(x, x.cell(0, 1, 1), 99998);
        Due.told(x, x.told(0, 3), 2);
        Due.told(x, x.told(0, 5), 8);
        x.river(0, 1, 0);
        x.water(0, 1, 99996);
        Due.is(x.step(0, 9), 1);
        Due.told(x, x.cell(0, 1, 1), 100000);
        // a RIM that a TIDE would lower may have no more ahead of it either
        SeaCells y = new SeaCells();
        y.board(0, 1, 2, 1);
        y.water(0, 0, 100000);
        y.water(0, 1, 100000);
        y.river(0, 0, 1);
        Due.rowOf(y, 0, 5);
        y.tide(0, 0, 0);
        Due.is(y.step(0, 1), 0);
        Due.told(y, y.cell(0, 0, 1), 100000);
        Due.told(y, y.told(0, 6), 0);
    }

    private static SeaCells star() {
        SeaCells x = new SeaCells();
        x.board(0, 0, 3, 3);
        x.water(0, 4, 400);
        return x;
    }

    private static int drifts(SeaCells x, int draught) {
        x.boat(5, 0, 4, draught);
        x.step(0, 1);
        return x.where(5);
    }

    private static void boatsDrift() {
        // 100 leads away each way
        Due.is(drifts(star(), 1), 5);
        Due.is(drifts(star(), 100), 5);
        Due.is(drifts(star(), 101), 4);
        SeaCells x = star();
        x.gate(0, 8, true);
        Due.is(drifts(x, 1), 7);
        SeaCells y = star();
        y.gate(0, 8, true);
        y.gate(0, 9, true);
        Due.is(drifts(y, 1), 3);
        SeaCells z = star();
        z.gate(0, 8, true);
        z.gate(0, 9, true);
        z.gate(0, 6, true);
        Due.is(drifts(z, 133), 1);
        SeaCells v = star();
        for (int side : new int[] {3, 6, 8, 9}) v.gate(0, side, true);
        Due.is(drifts(v, 1), 4);
    }

    private static void boatsChoose() {
        // the deeper a CELL beside, the more leads to it
        int[] beside = {5, 7, 3, 1};
        for (int c : beside) {
            SeaCells x = star();
            x.bottom(0, c, -10);
            Due.is(drifts(x, 101), c);
            SeaCells y = star();
            for (int other : beside) y.bottom(0, other, other == c ? 0 : 50);
            Due.is(drifts(y, 1), c);
        }
        // what leads to the BOAT's own CELL does not move it
        SeaCells z = two(0, 100);
        z.boat(0, 0, 0, 1);
        z.boat(1, 0, 1, 1);
        z.boat(2, 0, 1, 46);
        z.step(0, 1);
        Due.is(z.where(0), 0);
        Due.is(z.where(1), 0);
        Due.is(z.where(2), 1);
        // one on another BOARD stays
        z.board(1, 0, 2, 1);
        z.boat(3, 1, 1, 1);
        z.boat(4, 0, 1, 1);
        z.step(0, 1);
        Due.is(z.where(3), 1);
        Due.is(z.where(4), 0);
    }

    private static void gaugesRead() {
        SeaCells x = two(100, 0);
        x.bottom(0, 1, -20);
        x.gauge(0, 0, 1);
        x.gauge(1, 0, 0);
        x.board(1, 0, 2, 1);
        x.gauge(2, 1, 0);
        // 120 by 2 less a tenth: 54
        x.step(0, 1);
        Due.told(x, x.reading(0, 0), 34);
        Due.told(x, x.reading(1, 0), 46);
        Due.is(x.reading(0, 1), -9);
        Due.is(x.reading(2, 0), -9);
        // behind the TIDE
        SeaCells y = new SeaCells();
        y.board(0, 1, 2, 1);
        Due.rowOf(y, 0, 31, 7);
        y.tide(0, 0, 0);
        y.gauge(0, 0, 0);
        y.step(0, 2);
        Due.told(y, y.reading(0, 0), 7);
        Due.told(y, y.reading(0, 1), 31);
    }
}
