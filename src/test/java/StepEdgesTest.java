/** The edges that part 2 of the terms names: a STEP, from a to f, and where it can't be done. */
public final class StepEdgesTest {
    private static final int NONE = -9;

    public static void main(String[] args) {
        shutSideHasNoFlow();
        flowGoesOn();
        windOnIce();
        noWaterNoFlow();
        bottomNotBelowTheLevel();
        leastFlowIsHeldUp();
        asTheyWere();
        outAboveWater();
        outBySeveralSides();
        outOfTheLeastFlows();
        whatComesInIsNotOut();
        stuffIsCut();
        stuffByTheLeastFlows();
        stuffEachWay();
        stuffAsItWas();
        stuffWithoutWater();
        riversAdd();
        tideAtItsEnds();
        tideLends();
        tideMovesNoStuff();
        notTidal();
        boatsByDraught();
        boatsOfAlikeFlows();
        boatsAtTheEdge();
        boatsDriftByThisStep();
        stepsAndReadings();
        waterOf100000();
        tooMuchByFlows();
        tooMuchByRivers();
        tooMuchIsLookedAtAheadOfTheTide();
        nothingOfAStepNotDone();
        latest48Readings();
        lostOnesGoBy();
        Due.end();
    }

    private static void stepsTo(SeaCells x, int flow, int left, int right) {
        Due.is(x.step(0, 1), 1);
        Due.told(x, x.flow(0, 0), flow);
        Due.told(x, x.cell(0, 0, 1), left);
        Due.told(x, x.cell(0, 1, 1), right);
    }

    private static void shutSideHasNoFlow() {
        Due.says("Each SIDE ..: if it is shut, FLOW is 0");
        for (int more : new int[] {100, -100}) {
            SeaCells x = Seas.two(500 + more, 500);
            x.wind(0, 20, 0);
            x.step(0, 1);
            int flow = more > 0 ? 63 : -27;
            Due.told(x, x.flow(0, 0), flow);
            x.gate(0, 0, true);
            // what flew is told until the STEP
            Due.told(x, x.flow(0, 0), flow);
            stepsTo(x, 0, 500 + more - flow, 500 + flow);
            // opened, it sets out from 0
            x.gate(0, 0, false);
            x.wind(0, 0, 0);
            x.water(0, 0, 500);
            x.water(0, 1, 500);
            stepsTo(x, 0, 500, 500);
        }
        SeaCells y = new SeaCells();
        y.board(0, 0, 2, 2);
        y.water(0, 0, 80);
        y.gate(0, 1, true);
        y.step(0, 1);
        Due.told(y, y.flow(0, 1), 0);
        Due.told(y, y.cell(0, 2, 1), 0);
        Due.told(y, y.cell(0, 1, 1), 36);
    }

    private static void flowGoesOn() {
        Due.says("the new FLOW is FLOW, and PULL times (..) by 8, cut, and WIND; of this its DRAGth part, cut, is taken away");
        SeaCells x = Seas.two(500, 500);
        x.wind(0, 11, 0);
        x.law(0, 1, 1000);
        stepsTo(x, 11, 489, 511);
        // 11, less 22 by 8, and 11
        stepsTo(x, 20, 469, 531);
        // 20, less 62 by 8, and 11
        stepsTo(x, 24, 445, 555);
        x.wind(0, -50, 0);
        // 24, less 110 by 8, less 50
        stepsTo(x, -39, 484, 516);
        x.wind(0, 0, 0);
        x.law(0, 1, 2);
        // -39, less 32 by 8: -43, of which a half, cut, is 21
        stepsTo(x, -22, 506, 494);
    }

    private static void windOnIce() {
        Due.says("and WIND (x at right ones, y at upper ones; not on an ICED one)");
        for (int kind : new int[] {0, 1, 3}) {
            SeaCells x = new SeaCells();
            x.board(0, kind, 2, 2);
            x.law(0, 4, 1000);
            for (int c = 0; c < 4; c++) x.water(0, c, 500);
            x.wind(0, 7, -9);
            x.step(0, 1);
            Due.told(x, x.flow(0, 0), kind == 3 ? 0 : 7);
            Due.told(x, x.flow(0, 1), kind == 3 ? 0 : -9);
            Due.told(x, x.flow(0, 3), kind == 3 ? 0 : -9);
            Due.told(x, x.flow(0, 4), kind == 3 ? 0 : 7);
        }
        // a NEST has wind, too
        SeaCells y = Seas.nested(500, 500, 500, 500, 500);
        y.law(1, 4, 1000);
        y.wind(1, 7, -9);
        y.step(1, 1);
        Due.told(y, y.flow(1, 0), 7);
        Due.told(y, y.flow(1, 1), -9);
    }

    private static void noWaterNoFlow() {
        Due.says("If it is above 0 and p has no WATER, or below 0 and q has none, it is 0");
        SeaCells x = Seas.two(0, 100);
        x.bottom(0, 0, 90);
        x.wind(0, 50, 0);
        stepsTo(x, 0, 0, 100);
        SeaCells y = Seas.two(1, 100);
        y.bottom(0, 0, 90);
        y.wind(0, 50, 0);
        stepsTo(y, 1, 0, 101);
        SeaCells z = Seas.two(100, 0);
        z.bottom(0, 1, 90);
        z.wind(0, -50, 0);
        stepsTo(z, 0, 100, 0);
        SeaCells v = Seas.two(100, 1);
        v.bottom(0, 1, 90);
        v.wind(0, -50, 0);
        stepsTo(v, -1, 101, 0);
        // above 0 it does not matter that q has none, below 0 that p has none
        stepsTo(Seas.two(80, 0), 36, 44, 36);
        stepsTo(Seas.two(0, 80), -36, 36, 44);
    }

    /** Two CELLS, the right one of them at a side or above, that WIND pushes together or apart. */
    private static void bottomIs(boolean upper, boolean back, int bottom, int due) {
        SeaCells x = new SeaCells();
        x.board(0, 0, 2, 2);
        int q = upper ? 2 : 1;
        int from = back ? q : 0;
        int to = back ? 0 : q;
        x.bottom(0, from, -20);
        x.water(0, from, 120);
        x.bottom(0, to, bottom);
        // the others are cut off
        for (int side : new int[] {upper ? 0 : 1, upper ? 3 : 4, upper ? 4 : 3}) x.gate(0, side, true);
        x.law(0, 1, 1000);
        int wind = back ? -50 : 50;
        x.wind(0, upper ? 0 : wind, upper ? wind : 0);
        x.step(0, 1);
        Due.told(x, x.flow(0, upper ? 1 : 0), back ? -due : due);
        Due.told(x, x.cell(0, to, 1), due);
    }

    private static void bottomNotBelowTheLevel() {
        Due.says("Also 0, if it would lead to a CELL of which the BOTTOM is not below the LEVEL of the other one");
        for (boolean upper : new boolean[] {false, true}) {
            for (boolean back : new boolean[] {false, true}) {
                bottomIs(upper, back, 99, 50);
                bottomIs(upper, back, 100, 0);
                bottomIs(upper, back, 101, 0);
                bottomIs(upper, back, 92, 51);
            }
        }
        // the BOTTOM counts, not the LEVEL there
        SeaCells x = Seas.two(100, 30);
        x.bottom(0, 1, 99);
        x.wind(0, 50, 0);
        stepsTo(x, 33, 67, 63);
        SeaCells y = Seas.two(100, 30);
        y.bottom(0, 1, 100);
        y.wind(0, 50, 0);
        stepsTo(y, 0, 100, 30);
        // what leads the other way is not held up by it
        SeaCells z = Seas.two(10, 30);
        z.bottom(0, 1, 100);
        stepsTo(z, -30, 40, 0);
    }

    private static void leastFlowIsHeldUp() {
        Due.says("If it is above 0 .. or below 0 .. Also 0, if it would lead to a CELL of which the BOTTOM is not below");
        for (int push : new int[] {1, 2}) {
            for (int bottom : new int[] {99, 100}) {
                int due = bottom == 100 ? 0 : push;
                SeaCells x = Seas.two(100, 0);
                x.bottom(0, 1, bottom);
                x.law(0, 1, 1000);
                x.wind(0, push, 0);
                stepsTo(x, due, 100 - due, due);
                SeaCells y = Seas.two(0, 100);
                y.bottom(0, 0, bottom);
                y.law(0, 1, 1000);
                y.wind(0, -push, 0);
                stepsTo(y, -due, due, 100 - due);
            }
        }
    }

    private static void asTheyWere() {
        Due.says("(All by LEVELS and WATER as they were.)");
        SeaCells x = Seas.line(80, 0, 0, 80, 80);
        x.step(0, 1);
        int[] flows = {36, 0, -36, 0};
        for (int k = 0; k < 4; k++) Due.told(x, x.flow(0, 2 * k), flows[k]);
        int[] water = {44, 36, 36, 44, 80};
        for (int c = 0; c < 5; c++) Due.told(x, x.cell(0, c, 1), water[c]);
    }

    private static void outAboveWater() {
        Due.says("If OUT is above its WATER, each of these becomes FLOW times WATER by OUT, cut");
        // 45 leads away: of 44 all goes, of 45, of 46 one stays
        for (int water : new int[] {44, 45, 46}) {
            SeaCells x = Seas.two(water, 0);
            x.bottom(0, 0, 100 - water);
            stepsTo(x, Math.min(water, 45), water - Math.min(water, 45), Math.min(water, 45));
            SeaCells y = Seas.two(0, water);
            y.bottom(0, 1, 100 - water);
            stepsTo(y, -Math.min(water, 45), Math.min(water, 45), water - Math.min(water, 45));
        }
    }

    private static void outBySeveralSides() {
        Due.says("OUT of a CELL: the sum of all FLOWS that lead away from it .. FLOW times WATER by OUT, cut");
        // 36 leads away each way: 144
        for (int water : new int[] {144, 143, 142, 80, 7, 3, 1}) {
            SeaCells x = new SeaCells();
            x.board(0, 0, 3, 3);
            x.water(0, 4, water);
            x.bottom(0, 4, 80 - water);
            x.step(0, 1);
            int each = 36 * water / 144;
            int[][] due = {{8, each}, {9, each}, {6, -each}, {3, -each}};
            for (int[] k : due) Due.told(x, x.flow(0, k[0]), k[1]);
            Due.told(x, x.cell(0, 4, 1), water - 4 * each);
        }
        // not alike ones: 90 and 45 of 100, 66 and 33
        SeaCells y = Seas.line(0, 100, 0);
        y.bottom(0, 1, 100);
        y.bottom(0, 2, 100);
        y.step(0, 1);
        Due.told(y, y.flow(0, 0), -66);
        Due.told(y, y.flow(0, 2), 33);
        Due.told(y, y.cell(0, 1, 1), 1);
    }

    private static void outOfTheLeastFlows() {
        Due.says("If OUT is above its WATER, each of these becomes FLOW times WATER by OUT, cut");
        // a CELL from which this much leads away both ways, and what is left of that
        int[][] due = {{1, 1, 0}, {1, 2, 1}, {2, 1, 0}, {2, 2, 1}, {2, 3, 1}, {2, 4, 2}, {3, 5, 2}, {3, 6, 3}};
        for (int[] k : due) {
            SeaCells x = Seas.line(500, k[1], 500);
            x.bottom(0, 1, 500 + 2 * k[0] - k[1]);
            x.step(0, 1);
            Due.told(x, x.flow(0, 0), -k[2]);
            Due.told(x, x.flow(0, 2), k[2]);
            Due.told(x, x.cell(0, 1, 1), k[1] - 2 * k[2]);
        }
        // one way more than the other one
        SeaCells y = Seas.line(498, 2, 496);
        y.bottom(0, 1, 498);
        y.step(0, 1);
        // 1 and 2 of 2: 2 by 3 and 4 by 3
        Due.told(y, y.flow(0, 0), 0);
        Due.told(y, y.flow(0, 2), 1);
    }

    private static void whatComesInIsNotOut() {
        Due.says("OUT of a CELL: the sum of all FLOWS that lead away from it; WATER (as it was)");
        // 45 comes in, 45 goes out, of 10 alone
        SeaCells x = Seas.line(100, 10, 0);
        x.bottom(0, 0, 90);
        x.bottom(0, 1, 90);
        x.step(0, 1);
        Due.told(x, x.flow(0, 0), 41);
        Due.told(x, x.flow(0, 2), 10);
        int[] water = {59, 41, 10};
        for (int c = 0; c < 3; c++) Due.told(x, x.cell(0, c, 1), water[c]);
    }

    private static void stuffIsCut() {
        Due.says("Of each STUFF an outflow q of a CELL with WATER w takes along amount times q by w, cut");
        int[][] amounts = {{0, 0}, {1, 0}, {2, 0}, {3, 1}, {80, 36}, {99, 44}, {100, 45}, {100000, 45000}};
        for (int[] k : amounts) {
            SeaCells x = Seas.two(80, 0);
            for (int stuff = 0; stuff < 3; stuff++) x.spill(0, 0, stuff, stuff == 1 ? k[0] : 5);
            x.step(0, 1);
            Due.told(x, x.cell(0, 1, 4), k[1]);
            Due.told(x, x.cell(0, 0, 4), k[0] - k[1]);
            Due.told(x, x.cell(0, 1, 3), 2);
            Due.told(x, x.cell(0, 1, 5), 2);
            Due.told(x, x.told(0, 8), k[0]);
            SeaCells y = Seas.two(0, 80);
            y.spill(0, 1, 1, k[0]);
            y.step(0, 1);
            Due.told(y, y.cell(0, 0, 4), k[1]);
            Due.told(y, y.cell(0, 1, 4), k[0] - k[1]);
        }
    }

    private static void stuffByTheLeastFlows() {
        Due.says("Of each STUFF an outflow q of a CELL with WATER w takes along amount times q by w, cut");
        for (int push : new int[] {1, 2, -1, -2}) {
            int from = push > 0 ? 0 : 1;
            SeaCells x = Seas.two(100, 100);
            x.law(0, 1, 1000);
            x.wind(0, push, 0);
            x.spill(0, from, 0, 99);
            x.spill(0, from, 1, 100);
            x.spill(0, from, 2, 1000);
            x.step(0, 1);
            Due.told(x, x.flow(0, 0), push);
            int[] taken = {(Math.abs(push) * 99) / 100, Math.abs(push), 10 * Math.abs(push)};
            int[] had = {99, 100, 1000};
            for (int k = 0; k < 3; k++) {
                Due.told(x, x.cell(0, 1 - from, 3 + k), taken[k]);
                Due.told(x, x.cell(0, from, 3 + k), had[k] - taken[k]);
            }
        }
    }

    private static void stuffEachWay() {
        Due.says("an outflow q of a CELL .. takes along: to each CELL beside");
        SeaCells x = new SeaCells();
        x.board(0, 0, 5, 6);
        for (int c = 0; c < 30; c++) x.water(0, c, 0);
        x.water(0, 22, 400);
        x.spill(0, 22, 1, 1000);
        x.step(0, 1);
        int[] beside = {23, 27, 21, 17};
        for (int c : beside) Due.told(x, x.cell(0, c, 4), 250);
        Due.told(x, x.cell(0, 22, 4), 0);
        Due.told(x, x.told(0, 8), 1000);
    }

    private static void stuffAsItWas() {
        Due.says("takes along amount times q by w, cut (each by the amount as it was)");
        SeaCells x = Seas.line(0, 80, 0);
        x.spill(0, 1, 0, 20);
        x.step(0, 1);
        // 36 each way: 9 of 20 each, not 9 and then 4
        int[] stuff = {9, 2, 9};
        for (int c = 0; c < 3; c++) Due.told(x, x.cell(0, c, 3), stuff[c]);
        // what comes in goes not on in the same STEP
        SeaCells y = Seas.line(160, 80, 0);
        y.spill(0, 0, 2, 1000);
        y.step(0, 1);
        int[] due = {775, 225, 0};
        for (int c = 0; c < 3; c++) Due.told(y, y.cell(0, c, 5), due[c]);
    }

    private static void stuffWithoutWater() {
        Due.says("an outflow q of a CELL with WATER w: where none leads away, STUFF stays");
        SeaCells x = Seas.two(0, 80);
        x.spill(0, 0, 0, 70);
        x.step(0, 1);
        Due.told(x, x.cell(0, 0, 3), 70);
        // all the WATER takes all along
        SeaCells y = Seas.two(3, 0);
        y.spill(0, 0, 0, 70);
        y.wind(0, 50, 0);
        stepsTo(y, 3, 0, 3);
        Due.told(y, y.cell(0, 0, 3), 0);
        Due.told(y, y.cell(0, 1, 3), 70);
    }

    private static void riversAdd() {
        Due.says("Each RIVER adds its WATER (RAIN is that more)");
        SeaCells x = Seas.two(0, 0);
        x.river(0, 0, 80);
        x.river(0, 0, 20);
        x.river(0, 1, 0);
        // behind the FLOWS: in this STEP none goes on
        stepsTo(x, 0, 100, 0);
        Due.told(x, x.told(0, 5), 100);
        stepsTo(x, 45, 155, 45);
        Due.told(x, x.told(0, 5), 200);
    }

    private static void tideAtItsEnds() {
        Due.says("each of its CELLS gets WATER so that its LEVEL is that (0 at least, 100000 at most)");
        int[][] due = {{9, 0}, {10, 0}, {11, 1}, {100009, 99999}, {100010, 100000}, {100011, 100000}, {-100000, 0}};
        for (int[] k : due) {
            SeaCells x = new SeaCells();
            x.board(0, 1, 2, 2);
            x.gate(0, 1, true);
            x.bottom(0, 0, 10);
            x.bottom(0, 2, -1000);
            // a ROW's places end at 100000: MORE leads higher
            int more = k[0] > 100000 ? 500 : 0;
            Due.rowOf(x, 0, k[0] - more);
            x.tide(0, 0, more);
            Due.told(x, x.mark(0, 1), k[0]);
            Due.is(x.step(0, 1), 1);
            Due.told(x, x.cell(0, 0, 1), k[1]);
            int other = Math.max(0, Math.min(100000, k[0] + 1000));
            Due.told(x, x.cell(0, 2, 1), other);
            Due.told(x, x.told(0, 6), k[1] + other);
        }
    }

    private static void tideLends() {
        Due.says("LENT (what the RIM took in, less what it let out); LENT is by so much more or less");
        SeaCells x = new SeaCells();
        x.board(0, 1, 2, 1);
        x.gate(0, 0, true);
        x.water(0, 0, 60);
        Due.rowOf(x, 0, 60, 61, 59, 0);
        x.tide(0, 0, 0);
        int[] lent = {0, 1, -1, -60};
        for (int due : lent) {
            x.step(0, 1);
            Due.told(x, x.told(0, 6), due);
        }
        // by what it has behind the FLOWS and the RIVERS: 60 less 27, and 5
        SeaCells y = Seas.two(0, 0);
        y.board(0, 1, 2, 1);
        y.water(0, 0, 60);
        y.river(0, 0, 5);
        Due.rowOf(y, 0, 100);
        y.tide(0, 0, 0);
        y.step(0, 1);
        Due.told(y, y.told(0, 6), 100 - 38);
        Due.told(y, y.cell(0, 1, 1), 27);
        Due.told(y, y.told(0, 5), 5);
    }

    private static void tideMovesNoStuff() {
        Due.says("(STUFFS stay.)");
        SeaCells x = new SeaCells();
        x.board(0, 1, 2, 1);
        x.gate(0, 0, true);
        for (int stuff = 0; stuff < 3; stuff++) x.spill(0, 0, stuff, 40 + stuff);
        x.water(0, 0, 50);
        Due.rowOf(x, 0, 0, 70);
        x.tide(0, 0, 0);
        for (int turn = 0; turn < 2; turn++) {
            x.step(0, 1);
            for (int stuff = 0; stuff < 3; stuff++) Due.told(x, x.cell(0, 0, 3 + stuff), 40 + stuff);
        }
    }

    private static void notTidal() {
        Due.says("TIDE, of a TIDAL one");
        SeaCells x = Seas.two(50, 50);
        for (int r = 0; r < 6; r++) Due.rowOf(x, r, 9);
        x.nest(1, 0, 0, 0, 1, 1);
        x.step(0, 3);
        x.step(1, 3);
        Due.told(x, x.cell(0, 0, 1), 50);
        Due.told(x, x.cell(1, 0, 1), 50);
        Due.told(x, x.told(0, 6), 0);
        Due.told(x, x.told(1, 6), 0);
    }

    private static int drifts(SeaCells x, int draught) {
        x.boat(5, 0, 4, draught);
        x.step(0, 1);
        return x.where(5);
    }

    private static void boatsByDraught() {
        Due.says("BOATS on it drift .. if that is as much as its DRAUGHT or more");
        int[] sides = {8, 9, 6, 3};
        int[] beside = {5, 7, 3, 1};
        for (int k = 0; k < 4; k++) {
            for (int draught : new int[] {136, 137, 138}) {
                SeaCells x = Seas.star();
                // one way is shut; of 400 go 180 by 522, and 171 by 522 each to the higher ones: 137 and 131
                x.gate(0, sides[(k + 1) % 4], true);
                x.bottom(0, beside[(k + 2) % 4], 20);
                x.bottom(0, beside[(k + 3) % 4], 20);
                Due.is(drifts(x, draught), draught == 138 ? 4 : beside[k]);
            }
        }
        SeaCells y = Seas.star();
        y.boat(0, 0, 4, 1000);
        y.boat(1, 0, 4, 1);
        y.step(0, 1);
        Due.is(y.where(0), 4);
        Due.is(y.where(1), 5);
        // a FLOW of 1000 moves the deepest one
        SeaCells z = Seas.two(2000, 0);
        z.law(0, 4, 1000);
        z.boat(0, 0, 0, 1000);
        z.wind(0, 1, 0);
        z.step(0, 1);
        Due.told(z, z.flow(0, 0), 1000);
        Due.is(z.where(0), 1);
    }

    private static void boatsOfAlikeFlows() {
        Due.says("(of alike ones right, up, left, down)");
        int[] sides = {8, 9, 6, 3};
        int[] beside = {5, 7, 3, 1};
        for (int shut = 0; shut < 16; shut++) {
            SeaCells x = Seas.star();
            int due = 4;
            for (int k = 3; k >= 0; k--) {
                if ((shut >> k & 1) == 1) x.gate(0, sides[k], true);
                else due = beside[k];
            }
            Due.is(drifts(x, 1), due);
        }
    }

    private static void boatsAtTheEdge() {
        Due.says("to the CELL beside: where there is none, a BOAT stays on its BOARD");
        SeaCells x = new SeaCells();
        x.board(0, 0, 2, 2);
        for (int c = 0; c < 4; c++) x.water(0, c, 500);
        x.wind(0, 50, 50);
        for (int c = 0; c < 4; c++) x.boat(c, 0, c, 1);
        x.step(0, 1);
        int[] there = {1, 3, 3, 3};
        for (int c = 0; c < 4; c++) Due.is(x.where(c), there[c]);
        SeaCells y = new SeaCells();
        y.board(0, 0, 2, 2);
        for (int c = 0; c < 4; c++) y.water(0, c, 500);
        y.wind(0, -50, -50);
        for (int c = 0; c < 4; c++) y.boat(c, 0, c, 1);
        y.step(0, 1);
        int[] back = {0, 0, 0, 2};
        for (int c = 0; c < 4; c++) Due.is(y.where(c), back[c]);
    }

    private static void boatsDriftByThisStep() {
        Due.says("to which the greatest FLOW of this STEP leads away from theirs");
        // 45, of which no more than 20 is left to flow
        SeaCells x = Seas.two(20, 0);
        x.bottom(0, 0, 80);
        x.boat(0, 0, 0, 21);
        x.boat(1, 0, 0, 20);
        x.step(0, 1);
        Due.is(x.where(0), 0);
        Due.is(x.where(1), 1);
        // one CELL each STEP; what leads to it does not move it
        SeaCells y = Seas.line(400, 300, 200, 100);
        y.boat(0, 0, 0, 1);
        y.boat(1, 0, 3, 1);
        y.step(0, 1);
        Due.is(y.where(0), 1);
        Due.is(y.where(1), 3);
        y.step(0, 1);
        Due.is(y.where(0), 2);
        // of another BOARD none
        SeaCells z = Seas.two(100, 0);
        z.board(1, 0, 2, 1);
        z.boat(0, 1, 0, 1);
        z.step(0, 1);
        Due.is(z.where(0), 0);
    }

    private static void stepsAndReadings() {
        Due.says("STEPS is one more. Then GAUGES on it read");
        SeaCells x = Seas.two(100, 0);
        x.board(1, 0, 2, 1);
        x.gauge(0, 0, 1);
        x.gauge(1, 1, 1);
        x.step(0, 0);
        Due.told(x, x.told(0, 3), 0);
        Due.is(x.reading(0, 0), NONE);
        x.step(0, 1);
        Due.told(x, x.told(0, 3), 1);
        Due.told(x, x.told(1, 3), 0);
        Due.told(x, x.reading(0, 0), 45);
        Due.is(x.reading(0, 1), NONE);
        Due.is(x.reading(1, 0), NONE);
        // behind RIVER and TIDE
        SeaCells y = new SeaCells();
        y.board(0, 1, 2, 1);
        y.gate(0, 0, true);
        y.river(0, 1, 6);
        Due.rowOf(y, 0, 31);
        y.tide(0, 0, 0);
        y.gauge(0, 0, 0);
        y.gauge(1, 0, 1);
        y.bottom(0, 1, -2);
        y.step(0, 1);
        Due.told(y, y.reading(0, 0), 31);
        Due.told(y, y.reading(1, 0), 4);
    }

    private static void waterOf100000() {
        Due.says("WATER above 100000 can't be: a STEP in which a CELL would have more by c or d is not done");
        SeaCells x = Seas.two(100000, 99991);
        x.bottom(0, 0, 10);
        // 19 by 2, a tenth less (none): 9
        stepsTo(x, 9, 99991, 100000);
        SeaCells y = Seas.two(100000, 99992);
        y.bottom(0, 0, 12);
        // 20 by 2, and a tenth less: 9
        Due.is(y.step(0, 1), 0);
        SeaCells z = Seas.two(100000, 100000);
        Due.is(z.step(0, 200), 200);
        Due.told(z, z.told(0, 4), 200000);
    }

    private static void tooMuchByFlows() {
        Due.says("a STEP in which a CELL would have more by c .. is not done");
        // one that takes in and lets out as much has no more
        SeaCells x = Seas.line(100000, 100000, 99000);
        x.bottom(0, 0, 20);
        x.bottom(0, 1, 10);
        x.wind(0, 5, 0);
        Due.is(x.step(0, 1), 1);
        Due.told(x, x.flow(0, 0), 9);
        // two that come together are too much, one each is not
        SeaCells y = Seas.line(100000, 99995, 100000);
        y.bottom(0, 0, 2);
        y.bottom(0, 2, 2);
        y.law(0, 4, 1000);
        Due.is(y.step(0, 1), 0);
        y.gate(0, 2, true);
        Due.is(y.step(0, 1), 1);
        Due.told(y, y.cell(0, 1, 1), 99998);
    }

    private static void tooMuchByRivers() {
        Due.says("a STEP in which a CELL would have more by .. d is not done");
        SeaCells x = Seas.two(0, 99998);
        x.gate(0, 0, true);
        x.river(0, 1, 1);
        Due.is(x.step(0, 5), 2);
        Due.told(x, x.cell(0, 1, 1), 100000);
        Due.told(x, x.told(0, 5), 2);
        Due.told(x, x.told(0, 3), 2);
        // a RIVER that brings none is none too much
        SeaCells y = Seas.two(100000, 100000);
        y.river(0, 1, 0);
        Due.is(y.step(0, 1), 1);
        // by two RIVERS together
        SeaCells z = Seas.two(0, 99000);
        z.gate(0, 0, true);
        z.river(0, 1, 600);
        z.river(0, 1, 401);
        Due.is(z.step(0, 1), 0);
        z.water(0, 1, 98999);
        Due.is(z.step(0, 1), 1);
    }

    private static void tooMuchIsLookedAtAheadOfTheTide() {
        Due.says("a STEP in which a CELL would have more by c or d is not done (not by e, nor does e help)");
        SeaCells x = new SeaCells();
        x.board(0, 1, 2, 1);
        x.gate(0, 0, true);
        x.water(0, 0, 100000);
        x.river(0, 0, 1);
        Due.rowOf(x, 0, 5);
        x.tide(0, 0, 0);
        Due.is(x.step(0, 1), 0);
        Due.told(x, x.cell(0, 0, 1), 100000);
        Due.told(x, x.told(0, 6), 0);
        // the TIDE itself fills no CELL over
        SeaCells y = new SeaCells();
        y.board(0, 1, 2, 1);
        y.gate(0, 0, true);
        y.bottom(0, 0, -1000);
        Due.rowOf(y, 0, 100000);
        y.tide(0, 0, 500);
        Due.is(y.step(0, 3), 3);
        Due.told(y, y.cell(0, 0, 1), 100000);
    }

    private static void nothingOfAStepNotDone() {
        Due.says("is not done (STATE), and nothing of it");
        SeaCells x = Seas.line(400, 0, 100, 100);
        x.gate(0, 4, true);
        x.river(0, 0, 3);
        x.spill(0, 0, 0, 50);
        x.boat(0, 0, 0, 1);
        x.gauge(0, 0, 1);
        x.step(0, 1);
        x.river(0, 3, 1);
        x.water(0, 3, 100000);
        x.boat(1, 0, 0, 1);
        long digest = x.digest();
        int findings = x.findings(1) + x.findings(2) + x.findings(3) + x.findings(4) + x.findings(5);
        Due.is(x.step(0, 1), 0);
        Due.is(x.step(0, 200), 0);
        Due.is(x.digest(), digest);
        Due.is(x.where(0), 1);
        Due.is(x.where(1), 0);
        Due.is(x.reading(0, 1), NONE);
        Due.is(x.findings(1) + x.findings(2) + x.findings(3) + x.findings(4) + x.findings(5), findings);
        // it goes on as soon as it can
        x.water(0, 3, 0);
        Due.is(x.step(0, 1), 1);
        Due.told(x, x.told(0, 3), 2);
        Due.told(x, x.told(0, 5), 3 + 3 + 1);
    }

    private static int[] upTo(int n) {
        int[] levels = new int[n];
        for (int i = 0; i < n; i++) levels[i] = 10 * i;
        return levels;
    }

    private static void latest48Readings() {
        Due.says("they keep the latest 48 READINGS (LEVELS)");
        SeaCells x = Seas.led(upTo(47));
        Due.is(x.reading(0, 47), NONE);
        Due.told(x, x.reading(0, 46), 0);
        x.step(0, 1);
        Due.told(x, x.reading(0, 47), 0);
        Due.is(x.reading(0, 48), NONE);
        // 49: the oldest goes
        Due.rowOf(x, 0, 777);
        x.step(0, 1);
        Due.told(x, x.reading(0, 0), 777);
        Due.told(x, x.reading(0, 47), 10);
        Due.is(x.reading(0, 48), NONE);
        x.step(0, 47);
        for (int i = 0; i < 48; i++) Due.told(x, x.reading(0, i), 777);
        Due.is(x.reading(0, 48), NONE);
    }

    private static void lostOnesGoBy() {
        Due.says("they keep the latest 48 READINGS (LEVELS), some of which may be LOST");
        SeaCells x = Seas.led(upTo(48));
        x.lose(0, 0);
        x.lose(0, 47);
        Due.is(x.reading(0, 0), NONE);
        Due.is(x.reading(0, 47), NONE);
        x.step(0, 1);
        // the LOST one of the oldest is gone, the other is number 1 now
        Due.told(x, x.reading(0, 47), 10);
        Due.is(x.reading(0, 1), NONE);
        Due.told(x, x.reading(0, 0), 0);
        x.step(0, 46);
        Due.is(x.reading(0, 47), NONE);
        x.step(0, 1);
        for (int i = 0; i < 48; i++) Due.is(x.reading(0, i) == 1 ? 1 : 0, 1);
    }
}
