/** Promises 1 to 10: a new object, ROWS, TEXTS. */
public final class RowsTextsTest {
    private static final int BAD = -1, STATE = -4, NONE = -9;
    private static final int NOTHING = 1, BEYOND = 2, NOUGHT = 4, SIZE = 5;

    public static void main(String[] args) {
        newObject();
        row();
        lay();
        tear();
        copy();
        mean();
        text();
        put();
        burn();
        faultOfItems();
        faultOfNumbers();
        faultOfSteps();
        Due.end();
    }

    private static void newObject() {
        SeaCells x = new SeaCells();
        for (int what = 0; what <= 5; what++) Due.is(x.count(what), 0);
        for (int k = 0; k < 6; k++) {
            int place = k;
            Due.finds(x, () -> x.mean(place), NOTHING);
            Due.finds(x, () -> x.fault(place), NOTHING);
            Due.finds(x, () -> x.told(place, 0), NOTHING);
        }
        for (int k = 0; k < 8; k++) {
            Due.is(x.where(k), NONE);
            Due.is(x.reading(k, 0), NONE);
        }
        SeaCells y = new SeaCells();
        Due.is(y.asked(), 0);
        Due.is(y.strength(), 0);
        Due.is(y.upper(), 0);
        Due.is(y.lower(), 1);
        Due.is(y.finding(), 0);
        Due.is(y.part(false), STATE);
        for (int f = 1; f <= 5; f++) Due.is(y.findings(f), 0);
        Due.is(y.forget(), 0);
    }

    private static void row() {
        SeaCells x = new SeaCells();
        Due.is(x.row(0, 3), 3);
        Due.is(x.row(5, 48), 48);
        Due.is(x.row(1, 0), 0);
        Due.is(x.count(0), 3);
        for (int i = 0; i < 48; i++) Due.told(x, x.lay(5, i, 1), 0);
        Due.finds(x, () -> x.lay(5, 48, 1), BEYOND);
        Due.finds(x, () -> x.lay(1, 0, 1), BEYOND);
        Due.refused(x, () -> x.row(5, 49), BAD);
        Due.refused(x, () -> x.row(6, 3), BAD);
        Due.refused(x, () -> x.row(-1, 3), BAD);
        Due.refused(x, () -> x.row(6, -1), BAD);
        Due.refused(x, () -> x.row(5, -1), -3);
        Due.finds(x, () -> x.row(5, Integer.MIN_VALUE), SIZE);
        Due.finds(x, () -> x.row(2, -1), SIZE);
        Due.is(x.count(0), 3);
        Due.is(x.row(5, 4), 4);
        for (int i = 0; i < 4; i++) Due.told(x, x.lay(5, i, 2), 0);
    }

    private static void lay() {
        SeaCells x = new SeaCells();
        Due.refused(x, () -> x.lay(0, 0, 100001), BAD);
        Due.finds(x, () -> x.lay(0, 0, 100000), NOTHING);
        x.row(0, 3);
        Due.told(x, x.lay(0, 2, 100000), 0);
        Due.told(x, x.lay(0, 2, -100000), 100000);
        Due.told(x, x.lay(0, 2, NONE), -100000);
        Due.told(x, x.lay(0, 2, 7), NONE);
        Due.told(x, x.lay(0, 1, 8), 0);
        Due.told(x, x.lay(0, 2, 9), 7);
        Due.finds(x, () -> x.lay(0, 3, 1), BEYOND);
        Due.finds(x, () -> x.lay(0, -1, 1), BEYOND);
        Due.refused(x, () -> x.lay(0, 3, 1), -3);
        Due.refused(x, () -> x.lay(0, 0, 100001), BAD);
        Due.refused(x, () -> x.lay(0, 0, -100001), BAD);
        Due.refused(x, () -> x.lay(0, 9, -100001), BAD);
        Due.refused(x, () -> x.lay(6, 0, 1), BAD);
        Due.refused(x, () -> x.lay(-1, 0, 1), BAD);
        Due.is(x.asked(), 7);
    }

    private static void tear() {
        SeaCells x = new SeaCells();
        Due.refused(x, () -> x.tear(6), BAD);
        Due.refused(x, () -> x.tear(-1), BAD);
        Due.finds(x, () -> x.tear(2), NOTHING);
        x.row(2, 0);
        x.row(3, 1);
        Due.is(x.tear(2), 1);
        Due.is(x.count(0), 1);
        Due.finds(x, () -> x.tear(2), NOTHING);
        Due.is(x.tear(3), 1);
        Due.finds(x, () -> x.lay(3, 0, 1), NOTHING);
    }

    private static void copy() {
        SeaCells x = new SeaCells();
        Due.rowOf(x, 0, 1, 2, 3, 4, 5);
        Due.rowOf(x, 1, 10, 20, 30);
        Due.is(x.copy(0, 3, 1, 1, 2), 1);
        Due.told(x, x.lay(1, 0, 10), 10);
        Due.told(x, x.lay(1, 1, 4), 4);
        Due.told(x, x.lay(1, 2, 5), 5);
        Due.is(x.copy(0, 0, 0, 1, 4), 1);
        int[] later = {1, 1, 2, 3, 4};
        for (int i = 0; i < 5; i++) Due.told(x, x.lay(0, i, later[i]), later[i]);
        Due.is(x.copy(0, 1, 0, 0, 4), 1);
        int[] sooner = {1, 2, 3, 4, 4};
        for (int i = 0; i < 5; i++) Due.told(x, x.lay(0, i, sooner[i]), sooner[i]);
        Due.is(x.copy(0, 5, 1, 3, 0), 1);
        Due.is(x.copy(0, 0, 1, 0, 3), 1);
        Due.told(x, x.lay(1, 2, 0), 3);
        Due.finds(x, () -> x.copy(0, 6, 1, 0, 0), BEYOND);
        Due.finds(x, () -> x.copy(0, 0, 1, 4, 0), BEYOND);
        Due.finds(x, () -> x.copy(0, 0, 1, 0, 4), BEYOND);
        Due.finds(x, () -> x.copy(1, 1, 0, 0, 3), BEYOND);
        Due.finds(x, () -> x.copy(0, -1, 1, 0, 1), BEYOND);
        Due.finds(x, () -> x.copy(0, 0, 1, -1, 1), BEYOND);
        Due.finds(x, () -> x.copy(0, 1, 1, 1, Integer.MAX_VALUE), BEYOND);
        Due.finds(x, () -> x.copy(0, Integer.MAX_VALUE, 1, 1, 1), BEYOND);
        Due.finds(x, () -> x.copy(0, 0, 1, Integer.MIN_VALUE, 1), BEYOND);
        Due.finds(x, () -> x.copy(0, 0, 2, 0, 1), NOTHING);
        Due.finds(x, () -> x.copy(2, 0, 0, 0, 1), NOTHING);
        Due.finds(x, () -> x.copy(2, 0, 0, 0, -1), SIZE);
        Due.finds(x, () -> x.copy(2, -1, 0, 99, 1), NOTHING);
        Due.finds(x, () -> x.copy(0, 99, 1, 0, -1), SIZE);
        Due.refused(x, () -> x.copy(6, 0, 0, 0, -1), BAD);
        Due.refused(x, () -> x.copy(0, 0, 6, 0, -1), BAD);
        Due.refused(x, () -> x.copy(-1, 0, 0, 0, 1), BAD);
        Due.refused(x, () -> x.copy(0, 0, -1, 0, 1), BAD);
        Due.refused(x, () -> x.copy(0, 0, 1, 0, 4), -3);
    }

    private static void mean() {
        SeaCells x = new SeaCells();
        Due.rowOf(x, 0, 5, NONE, 6, NONE);
        Due.told(x, x.mean(0), 5);
        Due.rowOf(x, 0, -5, NONE, -6);
        Due.told(x, x.mean(0), -5);
        Due.rowOf(x, 0, 100000, 100000, 100000);
        Due.told(x, x.mean(0), 100000);
        Due.rowOf(x, 0, 0, 0);
        Due.told(x, x.mean(0), 0);
        Due.rowOf(x, 1, NONE, NONE);
        Due.finds(x, () -> x.mean(1), NOUGHT);
        x.row(1, 0);
        Due.finds(x, () -> x.mean(1), NOUGHT);
        Due.finds(x, () -> x.mean(2), NOTHING);
        Due.refused(x, () -> x.mean(6), BAD);
        Due.refused(x, () -> x.mean(-1), BAD);
        Due.refused(x, () -> x.mean(1), -3);
    }

    private static void text() {
        SeaCells x = new SeaCells();
        Due.is(x.text(0, 2), 2);
        Due.is(x.text(5, 40), 40);
        Due.is(x.text(1, 0), 0);
        Due.is(x.count(1), 3);
        Due.is(x.count(0), 0);
        Due.is(x.put(5, 39, 65), 1032);
        Due.finds(x, () -> x.put(5, 40, 65), BEYOND);
        Due.is(x.text(5, 40), 40);
        Due.is(x.put(5, 39, 65), 1032);
        Due.refused(x, () -> x.text(5, 41), BAD);
        Due.refused(x, () -> x.text(6, 1), BAD);
        Due.refused(x, () -> x.text(-1, 1), BAD);
        Due.refused(x, () -> x.text(6, -1), BAD);
        Due.refused(x, () -> x.text(5, -1), -3);
        Due.finds(x, () -> x.text(2, -1), SIZE);
        Due.is(x.count(1), 3);
    }

    private static void put() {
        SeaCells x = new SeaCells();
        Due.finds(x, () -> x.put(0, 0, 1), NOTHING);
        x.text(0, 2);
        Due.is(x.put(0, 1, 127), 1032);
        Due.is(x.put(0, 1, 128), 1127);
        Due.is(x.put(0, 1, -128), 872);
        Due.is(x.put(0, 1, 300), 872);
        Due.is(x.put(0, 1, -1), 1044);
        Due.is(x.put(0, 1, 511), 999);
        Due.is(x.put(0, 1, 0), 999);
        Due.is(x.put(0, 0, 0), 1032);
        Due.finds(x, () -> x.put(0, 2, 1), BEYOND);
        Due.finds(x, () -> x.put(0, -1, 1), BEYOND);
        Due.refused(x, () -> x.put(0, 2, 1), -3);
        Due.refused(x, () -> x.put(6, 0, 1), BAD);
        Due.refused(x, () -> x.put(-1, 0, 1), BAD);
    }

    private static void burn() {
        SeaCells x = new SeaCells();
        Due.refused(x, () -> x.burn(6), BAD);
        Due.refused(x, () -> x.burn(-1), BAD);
        Due.finds(x, () -> x.burn(1), NOTHING);
        x.text(1, 0);
        Due.is(x.burn(1), 1);
        Due.is(x.count(1), 0);
        Due.finds(x, () -> x.burn(1), NOTHING);
        Due.finds(x, () -> x.put(1, 0, 1), NOTHING);
    }

    private static int faultOf(String text) {
        SeaCells x = new SeaCells();
        Due.write(x, 3, text);
        return x.fault(3);
    }

    private static void faultOfItems() {
        SeaCells x = new SeaCells();
        Due.refused(x, () -> x.fault(6), BAD);
        Due.refused(x, () -> x.fault(-1), BAD);
        Due.finds(x, () -> x.fault(0), NOTHING);
        Due.is(faultOf(""), NONE);
        Due.is(faultOf("   "), NONE);
        Due.is(faultOf("W1V2S3G4T5P6R7"), NONE);
        Due.is(faultOf("  W-1   V-2 S3G4  T-5 P6 R7  "), NONE);
        Due.is(faultOf("w1"), 0);
        Due.is(faultOf(" X1"), 1);
        Due.is(faultOf("S1 1"), 3);
        Due.is(faultOf("S1-"), 2);
        Due.is(faultOf("S1\t"), 2);
        Due.is(faultOf("S1" + (char) 0xD3 + "1"), 2);
        Due.is(faultOf("S"), 1);
        Due.is(faultOf("S 1"), 1);
        Due.is(faultOf("W-"), 2);
        Due.is(faultOf("W--1"), 2);
        Due.is(faultOf("W- 1"), 2);
        Due.is(faultOf("WV1"), 1);
        Due.is(faultOf("W/"), 1);
        Due.is(faultOf("W:"), 1);
        Due.is(faultOf("W1V"), 3);
        Due.is(faultOf("X1 Y1"), 0);
        // a FAULT ends a TEXT only there where the TEXT ends, not where its bytes were once
        Due.write(x, 0, "S1 Q");
        x.text(0, 3);
        Due.is(x.fault(0), NONE);
        x.put(0, 0, 'S');
        Due.is(x.fault(0), 1);
    }

    private static void faultOfNumbers() {
        Due.is(faultOf("W50V-50W-50V50W0V0"), NONE);
        Due.is(faultOf("S1 W51"), 3);
        Due.is(faultOf("S1 W-51"), 3);
        Due.is(faultOf("S1 V51"), 3);
        Due.is(faultOf("V-51"), 0);
        Due.is(faultOf("S0 S-0"), NONE);
        Due.is(faultOf("S-1"), 0);
        Due.is(faultOf("S25"), 0);
        Due.is(faultOf("G0 G9999"), NONE);
        Due.is(faultOf("G-1"), 0);
        Due.is(faultOf("T500T-500"), NONE);
        Due.is(faultOf("T501"), 0);
        Due.is(faultOf("T-501"), 0);
        Due.is(faultOf("P1P8"), NONE);
        Due.is(faultOf(" P0"), 1);
        Due.is(faultOf(" P9"), 1);
        Due.is(faultOf("P-1"), 0);
        Due.is(faultOf("R0R1000"), NONE);
        Due.is(faultOf("R1001"), 0);
        Due.is(faultOf("R-1"), 0);
        Due.is(faultOf("W0001"), NONE);
        Due.is(faultOf("W-0001"), NONE);
        Due.is(faultOf("W00001"), 5);
        Due.is(faultOf("W-00001"), 6);
        Due.is(faultOf("G99990"), 5);
        Due.is(faultOf("P99999"), 5);
        Due.is(faultOf("P9999"), 0);
    }

    private static void faultOfSteps() {
        Due.is(faultOf("S24"), NONE);
        Due.is(faultOf("S12S12S0"), NONE);
        Due.is(faultOf("S12 S12 S1"), 8);
        Due.is(faultOf("S20 W5 S5 X"), 7);
        SeaCells x = new SeaCells();
        Due.write(x, 0, "S24");
        Due.is(x.fault(0), NONE);
        Due.is(x.fault(0), NONE);
    }
}
