/** The edges that part 4 of the terms and promises 28 to 35, 39, 40 name: BOATS, GAUGES, TONES, fits. */
public final class ToneFitEdgesTest {
    private static final int STATE = -4, NONE = -9;
    private static final int NOUGHT = 4;

    public static void main(String[] args) {
        boatWasThere();
        boatLeavesWhereItWas();
        gaugeWasThere();
        gaugeWithoutReadings();
        readingsFromTheLatest();
        readingOfMinus9();
        loseEachOnce();
        toneHalves();
        toneOfAllPeriods();
        toneNumbersFromTheOldest();
        toneOfTheLatest48();
        toneWithoutLostOnes();
        toneOfOneReading();
        strengthIsALong();
        theToneOfAlikeOnes();
        theToneIsOneOf12();
        theToneChangesNothing();
        partOfTheLatestTone();
        fitTriesAllPulls();
        fitBehindEachStep();
        fitWithoutPlacesOfNone();
        fitOfAlikeOnes();
        fitWithoutMisfit();
        fitOnACopy();
        endsAtMostThatAndMore();
        endsLeaveOutWhatCannotBe();
        endsMore();
        Due.end();
    }

    private static void boatWasThere() {
        Due.says("boat: A BOAT is on a BOARD, in a CELL: 1 if it was there, else 0");
        SeaCells x = new SeaCells();
        x.board(0, 0, 2, 1);
        x.board(1, 0, 3, 1);
        for (int k = 0; k < 8; k++) {
            Due.is(x.boat(k, 0, 0, 1), 0);
            Due.is(x.boat(k, 0, 1, 1), 1);
            Due.is(x.boat(k, 1, 2, 1000), 1);
            Due.is(x.where(k), 2);
        }
        x.drop(0);
        Due.is(x.count(3), 8);
        x.drop(1);
        Due.is(x.count(3), 0);
        x.board(1, 0, 2, 1);
        for (int k = 0; k < 8; k++) Due.is(x.boat(k, 1, 0, 1), 0);
    }

    private static void boatLeavesWhereItWas() {
        Due.says("where: The CELL of a BOAT; NONE: it is missing");
        SeaCells x = Seas.two(500, 0);
        x.board(1, 0, 2, 1);
        x.boat(3, 0, 0, 1);
        x.boat(3, 1, 0, 1);
        x.step(0, 1);
        Due.is(x.where(3), 0);
        x.board(0, 0, 2, 1);
        Due.is(x.where(3), 0);
        x.board(1, 0, 2, 1);
        Due.is(x.where(3), NONE);
    }

    private static void gaugeWasThere() {
        Due.says("gauge: A GAUGE is at a CELL of a BOARD ..: 1 if it was there, else 0");
        SeaCells x = new SeaCells();
        x.board(0, 0, 2, 1);
        x.board(1, 0, 3, 1);
        for (int g = 0; g < 8; g++) {
            Due.is(x.gauge(g, 0, 0), 0);
            Due.is(x.gauge(g, 0, 0), 1);
            Due.is(x.gauge(g, 1, 2), 1);
        }
        x.drop(1);
        Due.is(x.count(4), 0);
        for (int g = 0; g < 8; g++) Due.is(x.gauge(g, 0, 1), 0);
    }

    private static void gaugeWithoutReadings() {
        Due.says("gauge: A GAUGE is at a CELL of a BOARD, without READINGS");
        SeaCells x = Seas.led(3, 4, 5);
        x.lose(0, 1);
        Due.is(x.gauge(0, 0, 0), 1);
        for (int i = 0; i < 4; i++) Due.is(x.reading(0, i), NONE);
        Due.finds(x, () -> x.tone(0, 4), NOUGHT);
        Due.is(x.lose(0, 0), STATE);
        x.step(0, 2);
        // what was LOST there once is not LOST now
        Due.told(x, x.reading(0, 1), 3);
        Due.told(x, x.reading(0, 0), 4);
        Due.is(x.reading(0, 2), NONE);
        // on another BOARD it reads there alone
        x.board(1, 0, 2, 1);
        x.gauge(0, 1, 0);
        x.step(0, 1);
        Due.is(x.reading(0, 0), NONE);
    }

    private static void readingsFromTheLatest() {
        Due.says("reading: READING i (0 the latest) of a GAUGE; NONE: LOST, none such, no GAUGE");
        SeaCells x = Seas.led(11, 22, 33);
        int[] due = {33, 22, 11};
        for (int i = 0; i < 3; i++) Due.told(x, x.reading(0, i), due[i]);
        Due.is(x.reading(0, 3), NONE);
        Due.is(x.reading(0, -1), NONE);
        x.lose(0, 1);
        Due.is(x.reading(0, 1), NONE);
        Due.told(x, x.reading(0, 2), 11);
        Due.is(x.reading(1, 0), NONE);
        Due.is(x.asked(), 11);
        x.drop(0);
        Due.is(x.reading(0, 0), NONE);
    }

    private static void readingOfMinus9() {
        Due.says("reading: told by asked(): 1; NONE: LOST (a LEVEL of -9 is none of these)");
        SeaCells x = Seas.led(NONE, NONE);
        Due.told(x, x.reading(0, 0), NONE);
        Due.is(x.lose(0, 0), 1);
        Due.is(x.reading(0, 0), NONE);
        Due.is(x.tone(0, 4), 1);
        Due.told(x, x.part(false), NONE);
    }

    private static void loseEachOnce() {
        Due.says("lose: READING i of a GAUGE is LOST: 1. STATE: no GAUGE, none such, LOST");
        int[] levels = new int[48];
        SeaCells x = Seas.led(levels);
        for (int i = 47; i >= 0; i--) {
            Due.is(x.lose(0, i), 1);
            Due.is(x.lose(0, i), STATE);
        }
        Due.is(x.lose(0, 48), STATE);
        Due.is(x.lose(0, -1), STATE);
        Due.is(x.lose(1, 0), STATE);
        Due.finds(x, () -> x.theTone(0), NOUGHT);
    }

    private static void toneHalves() {
        Due.says("C: the sum of LEVEL, less at numbers whose remainder by p is p by 2 or more; S: the same, the numbers p"
                + " by 4 more");
        for (int number = 0; number < 48; number++) {
            int[] levels = new int[number + 1];
            levels[number] = 7;
            SeaCells x = Seas.led(levels);
            for (int p = 4; p <= 48; p += 4) {
                Due.is(x.tone(0, p), 1);
                Due.told(x, x.part(false), number % p < p / 2 ? 7 : -7);
                Due.told(x, x.part(true), (number + p / 4) % p < p / 2 ? 7 : -7);
                Due.is(x.strength(), 98);
            }
        }
    }

    private static void toneOfAllPeriods() {
        Due.says("TONE of a GAUGE for a period p (4, 8, .., 48)");
        SeaCells x = Seas.led(5);
        for (int p = -4; p <= 56; p++) Due.is(x.tone(0, p), p >= 4 && p <= 48 && p % 4 == 0 ? 1 : -1);
        Due.is(x.finding(), 0);
    }

    private static void toneNumbersFromTheOldest() {
        Due.says("over all its READINGS .., the oldest being number 0");
        SeaCells x = Seas.led(1, 10, 100, 1000, 10000);
        x.tone(0, 4);
        Due.told(x, x.part(false), 1 + 10 - 100 - 1000 + 10000);
        Due.told(x, x.part(true), 1 - 10 - 100 + 1000 + 10000);
        x.tone(0, 8);
        Due.told(x, x.part(false), 1 + 10 + 100 + 1000 - 10000);
        Due.told(x, x.part(true), 1 + 10 - 100 - 1000 - 10000);
    }

    private static void toneOfTheLatest48() {
        Due.says("over all its READINGS .., the oldest being number 0 (of the latest 48)");
        int[] levels = new int[48];
        levels[0] = 5;
        levels[1] = 70;
        SeaCells x = Seas.led(levels);
        x.tone(0, 4);
        Due.told(x, x.part(true), 5 - 70);
        x.lay(0, 0, 600);
        x.step(0, 1);
        x.tone(0, 4);
        // 70 is number 0 now, 600 number 47
        Due.told(x, x.part(false), 70 - 600);
        Due.told(x, x.part(true), 70 + 600);
    }

    private static void toneWithoutLostOnes() {
        Due.says("over all its READINGS that are not LOST, the oldest being number 0");
        SeaCells x = Seas.led(1, 10, 100, 1000);
        // the oldest is number 0 even if it is LOST
        x.lose(0, 3);
        x.tone(0, 4);
        Due.told(x, x.part(false), 10 - 100 - 1000);
        Due.told(x, x.part(true), -10 - 100 + 1000);
        x.lose(0, 0);
        x.tone(0, 4);
        Due.told(x, x.part(false), 10 - 100);
        Due.told(x, x.part(true), -10 - 100);
    }

    private static void toneOfOneReading() {
        Due.says("NOUGHT: no READINGS that are not LOST");
        SeaCells x = Seas.led(6, 8);
        Due.is(x.lose(0, 0), 1);
        Due.is(x.tone(0, 48), 1);
        Due.is(x.theTone(0), 4);
        Due.is(x.strength(), 72);
        Due.is(x.lose(0, 1), 1);
        Due.finds(x, () -> x.tone(0, 48), NOUGHT);
        Due.finds(x, () -> x.theTone(0), NOUGHT);
        Due.is(x.strength(), 72);
        x.step(0, 1);
        Due.is(x.tone(0, 4), 1);
    }

    private static void strengthIsALong() {
        Due.says("STRENGTH: the square of C and that of S, together (longs)");
        int[] levels = new int[48];
        for (int i = 0; i < 48; i++) levels[i] = 99000;
        SeaCells x = Seas.led(levels);
        // of 96 no half is less: all 48 count in C at p 48 half and half
        x.tone(0, 48);
        Due.told(x, x.part(false), 0);
        Due.told(x, x.part(true), 0);
        for (int i = 0; i < 24; i++) x.lose(0, i);
        x.tone(0, 48);
        Due.told(x, x.part(false), 24 * 99000);
        Due.told(x, x.part(true), 0);
        Due.is(x.strength(), 24L * 99000 * 24 * 99000);
    }

    private static void theToneOfAlikeOnes() {
        Due.says("THE TONE: the p with the greatest STRENGTH, of alike ones the least");
        Due.is(Seas.led(0).theTone(0), 4);
        Due.is(Seas.led(-7).theTone(0), 4);
        Due.is(Seas.led(3, 3).theTone(0), 8);
        Due.is(Seas.led(3, -3).theTone(0), 4);
        // all in C and in S alike: as many as a quarter of p, or less
        int[] least = {4, 8, 12, 16, 20, 24, 28, 32, 36, 40, 44, 48};
        for (int n = 1; n <= 12; n++) {
            int[] levels = new int[n];
            for (int i = 0; i < n; i++) levels[i] = 9;
            Due.is(Seas.led(levels).theTone(0), least[n - 1]);
        }
    }

    private static void theToneIsOneOf12() {
        Due.says("THE TONE: the p (4, 8, .., 48) with the greatest STRENGTH");
        for (int p = 4; p <= 48; p += 4) {
            int[] levels = new int[48];
            for (int i = 0; i < 48; i++) levels[i] = i % p < p / 2 ? 90 : -90;
            Due.is(Seas.led(levels).theTone(0), p);
        }
    }

    private static void theToneChangesNothing() {
        Due.says("strength: STRENGTH of the latest tone() that was not refused (theTone() is none)");
        SeaCells x = Seas.led(1, 2, 30, 40);
        Due.is(x.theTone(0) > 0 ? 1 : 0, 1);
        Due.is(x.strength(), 0);
        Due.is(x.part(true), STATE);
        x.tone(0, 48);
        long strength = x.strength();
        x.theTone(0);
        Due.is(x.strength(), strength);
        Due.told(x, x.part(false), 73);
    }

    private static void partOfTheLatestTone() {
        Due.says("part: C (sine: S) of the latest tone(): 1; STATE: none was told");
        SeaCells x = Seas.led(5, 6);
        Due.is(x.part(true), STATE);
        Due.is(x.tone(0, 3), -1);
        Due.is(x.tone(1, 4), STATE);
        Due.is(x.part(false), STATE);
        x.tone(0, 4);
        Due.told(x, x.part(false), 11);
        Due.told(x, x.part(true), -1);
        Due.is(x.tone(0, 3), -1);
        Due.is(x.tone(1, 4), STATE);
        x.gauge(0, 0, 0);
        Due.is(x.tone(0, 4), SeaCells.FINDING);
        x.drop(0);
        Due.told(x, x.part(false), 11);
        Due.told(x, x.part(true), -1);
    }

    /** CELL 1 beside one of 100 has 11, 23, 34, 45, 56, 68, 79, 90 by PULL, behind the first STEP. */
    private static SeaCells hundred() {
        return Seas.two(100, 0);
    }

    private static void fitTriesAllPulls() {
        Due.says("FIT of a BOARD: with PULL 1 to 8 each a copy of it is stepped; THE FIT: the PULL with the least MISFIT");
        int[] water = {11, 23, 34, 45, 56, 68, 79, 90};
        for (int own : new int[] {1, 4, 8}) {
            SeaCells x = hundred();
            x.law(0, own, 10);
            for (int pull = 1; pull <= 8; pull++) {
                Due.rowOf(x, 0, water[pull - 1]);
                Due.is(x.fit(0, 1, 0), pull);
                Due.is(x.asked(), 0);
                Due.rowOf(x, 0, water[pull - 1] + 3);
                Due.is(x.fit(0, 1, 0), pull);
                Due.is(x.asked(), 3);
            }
        }
    }

    private static void fitBehindEachStep() {
        Due.says("is stepped as often as a ROW has places; how much the LEVEL of a told CELL behind STEP i differs from"
                + " place i");
        SeaCells x = hundred();
        x.bottom(0, 1, 20);
        x.bottom(0, 0, 20);
        // with PULL 4: 65, 110, 115, 79
        Due.rowOf(x, 0, 65, 110, 115, 79);
        Due.is(x.fit(0, 1, 0), 4);
        Due.is(x.asked(), 0);
        Due.rowOf(x, 0, 60, 117, 115, 80);
        Due.is(x.fit(0, 1, 0), 4);
        Due.is(x.asked(), 5 + 7 + 0 + 1);
        // as often as 48 times
        SeaCells y = new SeaCells();
        y.board(0, 0, 2, 1);
        y.river(0, 0, 1);
        y.gate(0, 0, true);
        y.row(0, 48);
        for (int i = 0; i < 48; i++) y.lay(0, i, i + 1);
        Due.is(y.fit(0, 0, 0), 1);
        Due.is(y.asked(), 0);
        y.lay(0, 47, 50);
        Due.is(y.fit(0, 0, 0), 1);
        Due.is(y.asked(), 2);
    }

    private static void fitWithoutPlacesOfNone() {
        Due.says("(places of NONE aside)");
        SeaCells x = hundred();
        Due.rowOf(x, 0, NONE, NONE, 95);
        Due.is(x.fit(0, 1, 0), 4);
        Due.is(x.asked(), 0);
        x.lay(0, 2, -8);
        Due.is(x.fit(0, 1, 0) > 0 ? 1 : 0, 1);
        // a STEP for a place of NONE has to be done, too
        SeaCells y = Seas.two(99999, 0);
        y.gate(0, 0, true);
        y.river(0, 0, 1);
        Due.rowOf(y, 0, 100000);
        Due.is(y.fit(0, 0, 0), 1);
        Due.rowOf(y, 0, 100000, NONE);
        Due.is(y.fit(0, 0, 0), NONE);
    }

    private static void fitOfAlikeOnes() {
        Due.says("THE FIT: the PULL with the least MISFIT, of alike ones the least");
        SeaCells x = hundred();
        x.gate(0, 0, true);
        Due.rowOf(x, 0, 40);
        Due.is(x.fit(0, 1, 0), 1);
        Due.is(x.asked(), 40);
        SeaCells y = hundred();
        // 11 and 23 are alike far from 17, 45 and 56 from none
        Due.rowOf(y, 0, 17);
        Due.is(y.fit(0, 1, 0), 1);
        Due.is(y.asked(), 6);
        Due.rowOf(y, 0, 62);
        Due.is(y.fit(0, 1, 0), 5);
    }

    private static void fitWithoutMisfit() {
        Due.says("if a STEP can't be done: the MISFIT is none; NONE: none has a MISFIT");
        SeaCells x = Seas.two(100000, 100000);
        x.river(0, 0, 1);
        Due.rowOf(x, 0, 5);
        x.lay(0, 0, 5);
        int asked = x.asked();
        Due.is(x.fit(0, 0, 0), NONE);
        Due.is(x.ends(0, 0, 0, 100000), NONE);
        Due.is(x.asked(), asked);
        Due.is(x.finding(), 0);
        // 9 times PULL by 8: 1, 2, 3, 4, 5, 6, 7, 9 more: the last two are too much
        SeaCells y = Seas.two(100000, 99994);
        y.bottom(0, 0, 3);
        Due.rowOf(y, 0, 100000);
        Due.is(y.fit(0, 1, 0), 6);
        Due.is(y.asked(), 0);
    }

    private static void fitOnACopy() {
        Due.says("a copy of it (its BOATS and GAUGES aside) is stepped");
        SeaCells x = hundred();
        x.boat(0, 0, 0, 1);
        x.gauge(0, 0, 1);
        x.river(0, 0, 2);
        x.step(0, 1);
        Due.rowOf(x, 0, 1, 2, 3, 4, 5);
        long digest = x.digest();
        Due.is(x.fit(0, 1, 0) > 0 ? 1 : 0, 1);
        Due.is(x.ends(0, 1, 0, 9) > 0 ? 1 : 0, 1);
        Due.is(x.digest(), digest);
        Due.is(x.reading(0, 1), NONE);
        // its PULL is what it was
        SeaCells y = hundred();
        Due.rowOf(y, 0, 90);
        Due.is(y.fit(0, 1, 0), 8);
        y.step(0, 1);
        Due.told(y, y.flow(0, 0), 45);
    }

    private static void endsAtMostThatAndMore() {
        Due.says("ENDS: the least and the greatest PULL with a MISFIT of at most that, and a told more");
        SeaCells x = hundred();
        Due.rowOf(x, 0, 57);
        // MISFITS 46, 34, 23, 12, 1, 11, 22, 33
        int[][] due = {{0, 55}, {9, 55}, {10, 56}, {11, 46}, {20, 46}, {21, 47}, {22, 37}, {31, 37}, {32, 38}, {33, 28},
            {44, 28}, {45, 18}, {100000, 18}};
        for (int[] k : due) Due.is(x.ends(0, 1, 0, k[0]), k[1]);
    }

    private static void endsLeaveOutWhatCannotBe() {
        Due.says("ends: 10 times the least PULL, and the greatest (with a MISFIT)");
        SeaCells x = Seas.two(100000, 99994);
        x.bottom(0, 0, 3);
        Due.rowOf(x, 0, 100000);
        Due.is(x.ends(0, 1, 0, 0), 66);
        Due.is(x.ends(0, 1, 0, 1), 56);
        Due.is(x.ends(0, 1, 0, 100000), 16);
        // one with a MISFIT alone: 15 times PULL by 8 is 1 for the first
        SeaCells y = Seas.two(100000, 99999);
        y.bottom(0, 0, 14);
        Due.rowOf(y, 0, 7);
        Due.is(y.ends(0, 1, 0, 100000), 11);
    }

    private static void endsMore() {
        Due.says("ENDS with a more (0 .. 100000)");
        SeaCells x = hundred();
        Due.rowOf(x, 0, 57);
        int[] ends = {x.ends(0, 1, 0, -1), x.ends(0, 1, 0, 0), x.ends(0, 1, 0, 100000), x.ends(0, 1, 0, 100001)};
        int[] due = {-1, 55, 18, -1};
        for (int k = 0; k < 4; k++) Due.is(ends[k], due[k]);
        // what it finds is not told by asked()
        Due.told(x, x.cell(0, 0, 1), 100);
        x.ends(0, 1, 0, 5);
        Due.is(x.asked(), 100);
    }
}
