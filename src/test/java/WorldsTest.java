/** Promises 39 to 46: fits, TEXTS that are played, WORLDS, alarms, gates. */
public final class WorldsTest {
    private static final int BAD = -1, FULL = -2, STATE = -4, NONE = -9;
    private static final int NOTHING = 1, BEYOND = 2, NOUGHT = 4;

    public static void main(String[] args) {
        fit();
        fitOfTides();
        fitLeavesAll();
        fitNone();
        fitRefused();
        ends();
        play();
        playItems();
        playRivers();
        playStops();
        playRefused();
        world();
        forget();
        alarm();
        alarmStops();
        alarmRefused();
        post();
        postRefused();
        gates();
        gatesChoose();
        gatesRefused();
        Due.end();
    }

    /** A BOARD of two CELLS, the first of which has 100. */
    private static SeaCells hundred() {
        SeaCells x = new SeaCells();
        x.board(0, 0, 2, 1);
        x.water(0, 0, 100);
        return x;
    }

    private static void fit() {
        SeaCells x = hundred();
        // behind the first STEP the second CELL has 11, 23, 34, 45, 56, 68, 79, 90 by PULL
        Due.rowOf(x, 0, 57);
        Due.is(x.fit(0, 1, 0), 5);
        Due.is(x.asked(), 1);
        x.lay(0, 0, 62);
        Due.is(x.fit(0, 1, 0), 5);
        Due.is(x.asked(), 6);
        x.lay(0, 0, 1000);
        Due.is(x.fit(0, 1, 0), 8);
        Due.is(x.asked(), 910);
        x.lay(0, 0, -100);
        Due.is(x.fit(0, 1, 0), 1);
        Due.is(x.asked(), 111);
        // the other CELL has 89, 77, 66, 55
        x.lay(0, 0, 60);
        Due.is(x.fit(0, 0, 0), 4);
        Due.is(x.asked(), 5);
        // NONE tells nothing; two STEPS with PULL 4: 45, 90
        Due.rowOf(x, 1, NONE, 90);
        Due.is(x.fit(0, 1, 1), 4);
        Due.is(x.asked(), 0);
        Due.rowOf(x, 1, 45, 90, NONE, NONE);
        Due.is(x.fit(0, 1, 1), 4);
        Due.is(x.asked(), 0);
        // alike ones: the CELL is cut off
        x.gate(0, 0, true);
        Due.is(x.fit(0, 1, 1), 1);
        Due.is(x.asked(), 135);
        x.bottom(0, 1, -20);
        Due.is(x.fit(0, 1, 1), 1);
        Due.is(x.asked(), 175);
    }

    private static void fitOfTides() {
        SeaCells x = new SeaCells();
        x.board(0, 1, 2, 1);
        Due.rowOf(x, 0, 100, 30, 60);
        x.tide(0, 0, 0);
        x.step(0, 1);
        Due.rowOf(x, 1, 30, 60, 100, 30);
        Due.is(x.fit(0, 0, 1), 1);
        Due.is(x.asked(), 0);
        // nor is a PULL that it has told: all are tried
        x.law(0, 8, 10);
        Due.is(x.fit(0, 0, 1), 1);
        x.copy(0, 0, 1, 0, 3);
        Due.is(x.fit(0, 0, 1), 1);
        Due.is(x.asked(), 70 + 30 + 40);
    }

    private static void fitLeavesAll() {
        SeaCells x = hundred();
        x.boat(0, 0, 0, 1);
        x.gauge(0, 0, 0);
        x.river(0, 0, 5);
        Due.rowOf(x, 0, 1, 2, 3);
        long digest = x.digest();
        x.fit(0, 1, 0);
        x.ends(0, 1, 0, 5);
        Due.is(x.digest(), digest);
        x.step(0, 1);
        Due.told(x, x.flow(0, 0), 45);
    }

    private static void fitNone() {
        SeaCells x = new SeaCells();
        x.board(0, 0, 2, 1);
        x.water(0, 0, 100000);
        x.water(0, 1, 100000);
        x.river(0, 0, 1);
        Due.rowOf(x, 0, 5);
        Due.is(x.fit(0, 0, 0), NONE);
        Due.is(x.ends(0, 0, 0, 100000), NONE);
        Due.is(x.asked(), 0);
        Due.is(x.finding(), 0);
        // some PULLS only: 8, 24 and so on go over, of 1000 less 990 none does; 10 by 8 and less a tenth
        SeaCells y = new SeaCells();
        y.board(0, 0, 2, 1);
        y.water(0, 0, 100000);
        y.bottom(0, 0, 3);
        y.water(0, 1, 99994);
        Due.rowOf(y, 0, 100000);
        // 9 times PULL by 8: 1, 2, 3, 4, 5, 6, 7, 9: 7 and 8 would be too much
        Due.is(y.fit(0, 1, 0), 6);
        Due.is(y.asked(), 0);
        Due.is(y.ends(0, 1, 0, 100000), 16);
        Due.is(y.ends(0, 1, 0, 4), 26);
        y.water(0, 1, 99999);
        y.bottom(0, 0, 16);
        // 17 times 1 by 8 is 2: too much with each
        Due.is(y.fit(0, 1, 0), NONE);
        // a STEP behind the first one that can't be done
        SeaCells z = new SeaCells();
        z.board(0, 0, 2, 1);
        z.water(0, 0, 99998);
        z.water(0, 1, 99998);
        z.river(0, 0, 1);
        z.gate(0, 0, true);
        z.row(0, 2);
        Due.is(z.fit(0, 0, 0), 1);
        z.row(0, 3);
        Due.is(z.fit(0, 0, 0), NONE);
    }

    private static void fitRefused() {
        SeaCells x = hundred();
        Due.rowOf(x, 0, 1);
        Due.rowOf(x, 1, NONE);
        x.row(2, 0);
        int[][] bad = {{-1, 0, 0}, {6, 0, 0}, {0, 0, -1}, {0, 0, 6}, {5, 9, 6}};
        for (int[] k : bad) {
            Due.refused(x, () -> x.fit(k[0], k[1], k[2]), BAD);
            Due.refused(x, () -> x.ends(k[0], k[1], k[2], 0), BAD);
        }
        Due.refused(x, () -> x.ends(0, 0, 0, -1), BAD);
        Due.refused(x, () -> x.ends(5, 0, 0, 100001), BAD);
        int[][] refused = {{1, 9, 1, NOTHING}, {0, 9, 3, NOTHING}, {0, 2, 1, BEYOND}, {0, -1, 0, BEYOND},
            {0, 0, 1, NOUGHT}, {0, 0, 2, NOUGHT}};
        for (int[] k : refused) {
            Due.finds(x, () -> x.fit(k[0], k[1], k[2]), k[3]);
            Due.finds(x, () -> x.ends(k[0], k[1], k[2], 0), k[3]);
        }
        Due.refused(x, () -> x.fit(0, 0, 1), -3);
    }

    private static void ends() {
        SeaCells x = hundred();
        Due.rowOf(x, 0, 57);
        // MISFITS 46, 34, 23, 12, 1, 11, 22, 33
        Due.is(x.ends(0, 1, 0, 0), 55);
        Due.is(x.ends(0, 1, 0, 9), 55);
        Due.is(x.ends(0, 1, 0, 10), 56);
        Due.is(x.ends(0, 1, 0, 11), 46);
        Due.is(x.ends(0, 1, 0, 22), 37);
        Due.is(x.ends(0, 1, 0, 44), 28);
        Due.is(x.ends(0, 1, 0, 45), 18);
        Due.is(x.ends(0, 1, 0, 100000), 18);
        Due.is(x.asked(), 0);
        x.lay(0, 0, 1000000);
        x.lay(0, 0, 34);
        Due.is(x.ends(0, 1, 0, 0), 33);
        x.gate(0, 0, true);
        Due.is(x.ends(0, 1, 0, 0), 18);
    }

    private static void play() {
        SeaCells x = hundred();
        Due.write(x, 0, "");
        Due.is(x.play(0, 0), 0);
        Due.write(x, 0, " S0 ");
        Due.is(x.play(0, 0), 0);
        Due.told(x, x.told(0, 3), 0);
        x.boat(0, 0, 0, 1);
        x.gauge(0, 0, 1);
        Due.write(x, 0, "S1 S1");
        Due.is(x.play(0, 0), 2);
        Due.told(x, x.told(0, 3), 2);
        Due.told(x, x.cell(0, 1, 1), 90);
        Due.is(x.where(0), 1);
        Due.told(x, x.reading(0, 0), 90);
        Due.told(x, x.reading(0, 1), 45);
        Due.write(x, 1, "S24");
        Due.is(x.play(0, 1), 24);
        Due.is(x.play(0, 1), 24);
        Due.told(x, x.told(0, 3), 50);
        // the same as by hand
        SeaCells y = hundred();
        Due.write(y, 0, "P7W-3S2V4G0S1G0S2");
        y.keep(0, 1);
        Due.is(y.play(0, 0), 5);
        y.law(1, 7, 10);
        y.wind(1, -3, 0);
        y.step(1, 2);
        y.wind(1, -3, 4);
        y.gate(1, 0, true);
        y.step(1, 1);
        y.gate(1, 0, false);
        y.step(1, 2);
        long flow = Due.tell(y, y.flow(1, 0));
        long water = Due.tell(y, y.cell(1, 0, 1));
        Due.told(y, y.flow(0, 0), flow);
        Due.told(y, y.cell(0, 0, 1), water);
    }

    private static void playItems() {
        SeaCells x = new SeaCells();
        x.board(0, 1, 2, 2);
        x.board(1, 3, 2, 2);
        x.board(2, 0, 2, 2);
        Due.rowOf(x, 0, 10);
        x.tide(0, 0, 3);
        x.tide(1, 0, 3);
        Due.write(x, 0, "T-500");
        for (int b = 0; b < 3; b++) Due.is(x.play(b, 0), 0);
        Due.told(x, x.mark(0, 1), -490);
        Due.told(x, x.mark(1, 1), -490);
        Due.write(x, 0, "G1G4G2G5G9999G1G1");
        Due.is(x.play(2, 0), 0);
        Due.is(x.gate(2, 1, false), 1);
        Due.is(x.gate(2, 4, false), 1);
        Due.is(x.gate(2, 0, false), 0);
        Due.is(x.gate(2, 3, false), 0);
        for (int c = 0; c < 4; c++) x.water(2, c, 1000);
        Due.write(x, 0, "W10 V-20 S1");
        Due.is(x.play(2, 0), 1);
        Due.told(x, x.flow(2, 0), 9);
        Due.told(x, x.flow(2, 4), 9);
        Due.told(x, x.flow(2, 1), -18);
        Due.told(x, x.flow(2, 3), -18);
        // each of both leaves the other one as it was, and DRAG, too
        x.board(3, 0, 2, 1);
        x.wind(3, 30, 30);
        x.law(3, 4, 2);
        Due.write(x, 0, "V5P8");
        Due.is(x.play(3, 0), 0);
        x.water(3, 0, 30);
        x.water(3, 1, 20);
        x.step(3, 1);
        Due.told(x, x.flow(3, 0), 20);
    }

    private static void playRivers() {
        SeaCells x = new SeaCells();
        x.board(0, 0, 8, 1);
        x.river(0, 0, 1000);
        x.river(0, 1, 33);
        x.river(0, 2, 0);
        x.river(0, 3, 1);
        for (int side = 0; side < 16; side += 2) x.gate(0, side, true);
        rains(x, "R50", 500 + 16);
        rains(x, "R50", 250 + 8);
        rains(x, "R300", 750 + 24);
        rains(x, "R1000", 1000 + 240);
        rains(x, "R100", 1240);
        rains(x, "R1000", 2000);
        rains(x, "R0", 0);
        rains(x, "R1000", 0);
    }

    private static void rains(SeaCells x, String item, int more) {
        long before = Due.tell(x, x.told(0, 5));
        Due.write(x, 0, item + "S1");
        Due.is(x.play(0, 0), 1);
        Due.told(x, x.told(0, 5), before + more);
    }

    private static void playStops() {
        SeaCells x = new SeaCells();
        x.board(0, 0, 2, 1);
        x.river(0, 0, 500);
        x.water(0, 0, 98800);
        x.gate(0, 0, true);
        Due.write(x, 0, "S1S5G0W9S1");
        Due.is(x.play(0, 0), 2);
        Due.told(x, x.told(0, 3), 2);
        Due.is(x.gate(0, 0, false), 1);
    }

    private static void playRefused() {
        SeaCells x = new SeaCells();
        x.board(0, 0, 2, 1);
        Due.write(x, 0, "S1 S");
        Due.refused(x, () -> x.play(-1, 0), BAD);
        Due.refused(x, () -> x.play(6, 0), BAD);
        Due.refused(x, () -> x.play(0, -1), BAD);
        Due.refused(x, () -> x.play(1, 6), BAD);
        Due.finds(x, () -> x.play(1, 0), NOTHING);
        Due.finds(x, () -> x.play(0, 1), NOTHING);
        Due.refused(x, () -> x.play(0, 0), STATE);
        Due.refused(x, () -> x.play(1, 0), -3);
        Due.told(x, x.told(0, 3), 0);
    }

    private static void world() {
        SeaCells x = new SeaCells();
        Due.refused(x, () -> x.world(-1, 0), BAD);
        Due.refused(x, () -> x.world(6, 0), BAD);
        Due.refused(x, () -> x.world(0, 100), BAD);
        Due.refused(x, () -> x.world(0, -1), BAD);
        Due.finds(x, () -> x.world(0, 99), NOTHING);
        Due.write(x, 0, "S");
        Due.refused(x, () -> x.world(0, 0), STATE);
        Due.write(x, 1, "S1");
        for (int k = 0; k < 8; k++) Due.is(x.world(1, 99 - k), k);
        Due.is(x.count(5), 8);
        Due.refused(x, () -> x.world(1, 0), FULL);
        Due.refused(x, () -> x.world(0, 0), FULL);
        Due.refused(x, () -> x.world(2, 0), FULL);
        Due.refused(x, () -> x.world(2, 100), BAD);
        Due.is(x.count(5), 8);
    }

    private static void forget() {
        SeaCells x = hundred();
        Due.is(x.forget(), 0);
        Due.write(x, 0, "S1");
        x.world(0, 3);
        x.world(0, 4);
        Due.is(x.forget(), 2);
        Due.is(x.count(5), 0);
        Due.finds(x, () -> x.alarm(0, 0, 0), NOUGHT);
        Due.is(x.world(0, 5), 0);
        Due.is(x.forget(), 1);
        Due.is(x.forget(), 0);
    }

    private static void alarmIs(SeaCells x, int cell, int level, long upper, long lower) {
        Due.is(x.alarm(0, cell, level), 1);
        Due.is(x.upper(), upper);
        Due.is(x.lower(), lower);
    }

    private static void alarm() {
        SeaCells x = hundred();
        // CELL 1 has 45, 90, 95, 59
        Due.write(x, 0, "S1");
        x.world(0, 2);
        Due.write(x, 0, "S1S1");
        x.world(0, 4);
        Due.write(x, 0, "S4");
        x.world(0, 8);
        Due.write(x, 0, "");
        x.world(0, 1);
        Due.write(x, 0, "P8S1");
        x.world(0, 0);
        x.text(0, 0);
        alarmIs(x, 1, 45, 14, 15);
        alarmIs(x, 1, 46, 4, 5);
        alarmIs(x, 1, 90, 4, 5);
        alarmIs(x, 1, 91, 8, 15);
        alarmIs(x, 1, 95, 8, 15);
        alarmIs(x, 1, 96, 0, 1);
        alarmIs(x, 1, 101000, 0, 1);
        alarmIs(x, 1, -1000, 14, 15);
        // behind a STEP, not ahead of it
        alarmIs(x, 0, 100, 0, 1);
        alarmIs(x, 0, 55, 14, 15);
        x.bottom(0, 1, -60);
        alarmIs(x, 1, 91, 0, 1);
        x.bottom(0, 1, 0);
        Due.told(x, x.cell(0, 0, 1), 100);
        Due.told(x, x.told(0, 3), 0);
        // nothing stays of one WORLD in the next, nor on the BOARD
        SeaCells y = hundred();
        y.boat(0, 0, 0, 1);
        y.gauge(0, 0, 0);
        Due.write(y, 0, "G0S1");
        y.world(0, 1);
        Due.write(y, 0, "S1");
        y.world(0, 1);
        long digest = y.digest();
        alarmIs(y, 1, 45, 1, 2);
        Due.is(y.digest(), digest);
    }

    private static void alarmStops() {
        SeaCells x = new SeaCells();
        x.board(0, 0, 2, 1);
        x.water(0, 0, 99990);
        x.river(0, 0, 6);
        x.gate(0, 0, true);
        Due.write(x, 0, "S2 G0 S9");
        x.world(0, 1);
        alarmIs(x, 0, 99996, 1, 1);
        alarmIs(x, 0, 99997, 0, 1);
        alarmIs(x, 1, 1, 0, 1);
    }

    private static void alarmRefused() {
        SeaCells x = hundred();
        int[][] bad = {{-1, 0, 0}, {6, 0, 0}, {0, 0, -1001}, {0, 9, 101001}, {1, 9, 101001}};
        for (int[] k : bad) Due.refused(x, () -> x.alarm(k[0], k[1], k[2]), BAD);
        Due.finds(x, () -> x.alarm(1, 9, 0), NOTHING);
        Due.finds(x, () -> x.alarm(0, 2, 0), BEYOND);
        Due.finds(x, () -> x.alarm(0, -1, 0), BEYOND);
        Due.finds(x, () -> x.alarm(0, 1, 0), NOUGHT);
        Due.write(x, 0, "S1");
        x.world(0, 0);
        Due.finds(x, () -> x.alarm(0, 1, 0), NOUGHT);
        Due.is(x.upper(), 0);
        Due.is(x.lower(), 1);
        x.world(0, 3);
        alarmIs(x, 1, 1, 1, 1);
        Due.refused(x, () -> x.alarm(0, 2, 0), -3);
        Due.is(x.upper(), 1);
    }

    private static void post() {
        SeaCells x = new SeaCells();
        x.board(0, 0, 3, 2);
        x.board(1, 0, 3, 2);
        Due.is(x.post(0, 8), 1);
        Due.is(x.post(0, 0), 2);
        Due.is(x.post(1, 0), 1);
        Due.is(x.post(0, 8), 3);
        Due.is(x.post(0, 5), 4);
        Due.is(x.post(1, 5), 2);
        Due.is(x.gate(0, 8, false), 0);
    }

    private static void postRefused() {
        SeaCells x = new SeaCells();
        Due.refused(x, () -> x.post(-1, 0), BAD);
        Due.refused(x, () -> x.post(6, 0), BAD);
        Due.finds(x, () -> x.post(0, 0), NOTHING);
        x.board(0, 0, 3, 2);
        for (int s : new int[] {-1, 4, 7, 9, 10, 11, 12, 99}) Due.finds(x, () -> x.post(0, s), BEYOND);
        for (int k = 1; k <= 4; k++) Due.is(x.post(0, k == 4 ? 8 : k), k);
        Due.refused(x, () -> x.post(0, 0), FULL);
        Due.finds(x, () -> x.post(0, 4), BEYOND);
        Due.finds(x, () -> x.post(1, 0), NOTHING);
    }

    private static void gatesAre(SeaCells x, int cell, int level, int set, long upper, long lower) {
        Due.is(x.gates(0, cell, level), set);
        Due.is(x.upper(), upper);
        Due.is(x.lower(), lower);
    }

    private static void gates() {
        SeaCells x = hundred();
        Due.write(x, 0, "S1");
        x.world(0, 2);
        Due.write(x, 0, "G0S1");
        x.world(0, 1);
        gatesAre(x, 1, 45, 0, 2, 3);
        x.post(0, 0);
        // shut ahead of the WORLDS, one of which opens it
        long digest = x.digest();
        gatesAre(x, 1, 45, 1, 1, 3);
        gatesAre(x, 1, 46, 0, 0, 1);
        gatesAre(x, 0, 50, 0, 1, 1);
        Due.is(x.digest(), digest);
        // what is shut stays shut in all sets
        x.gate(0, 0, true);
        gatesAre(x, 1, 45, 0, 1, 3);
    }

    private static void gatesChoose() {
        SeaCells x = new SeaCells();
        x.board(0, 0, 4, 1);
        x.water(0, 1, 200);
        Due.write(x, 0, "S3");
        x.world(0, 7);
        x.post(0, 0);
        x.post(0, 4);
        x.post(0, 2);
        // CELL 3: the last SIDE or the middle one serve, the one told first of them is number 1
        gatesAre(x, 3, 1, 2, 0, 1);
        // CELL 2: the middle one alone serves; CELL 0: the first
        gatesAre(x, 2, 1, 4, 0, 1);
        gatesAre(x, 0, 1, 1, 0, 1);
        // CELL 2 low, too: none serves with all others open
        gatesAre(x, 1, -1000, 0, 1, 1);
        // two are wanted: from both its sides WATER comes
        SeaCells y = new SeaCells();
        y.board(0, 0, 3, 1);
        y.water(0, 0, 100);
        y.water(0, 2, 100);
        Due.write(y, 0, "S1");
        y.world(0, 99);
        y.post(0, 0);
        y.post(0, 0);
        y.post(0, 2);
        gatesAre(y, 1, 1, 5, 0, 1);
        gatesAre(y, 1, 46, 1, 0, 1);
        y.post(0, 2);
        gatesAre(y, 1, 1, 5, 0, 1);
        // fewer SIDES go ahead of less bits
        SeaCells z = new SeaCells();
        z.board(0, 0, 3, 2);
        z.water(0, 0, 100);
        z.water(0, 2, 100);
        Due.write(z, 0, "S2");
        z.world(0, 99);
        z.post(0, 0);
        z.post(0, 2);
        z.post(0, 3);
        for (int side : new int[] {1, 5, 6, 8}) z.gate(0, side, true);
        gatesAre(z, 4, 1, 4, 0, 1);
    }

    private static void gatesRefused() {
        SeaCells x = hundred();
        int[][] bad = {{-1, 0, 0}, {6, 0, 0}, {0, 0, -1001}, {0, 9, 101001}};
        for (int[] k : bad) Due.refused(x, () -> x.gates(k[0], k[1], k[2]), BAD);
        Due.finds(x, () -> x.gates(1, 9, 0), NOTHING);
        Due.finds(x, () -> x.gates(0, 2, 0), BEYOND);
        Due.finds(x, () -> x.gates(0, -1, 0), BEYOND);
        Due.finds(x, () -> x.gates(0, 1, 0), NOUGHT);
        Due.write(x, 0, "S1");
        x.world(0, 0);
        Due.finds(x, () -> x.gates(0, 1, 0), NOUGHT);
        Due.refused(x, () -> x.gates(0, 1, 0), -3);
    }
}
