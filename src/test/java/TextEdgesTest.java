/** The edges that part 5 of the terms and promises 7 to 10, 41 to 46 name: TEXTS, WORLDS, THE ALARM, THE GATES. */
public final class TextEdgesTest {
    private static final int FULL = -2, STATE = -4, NONE = -9;
    private static final int NOTHING = 1, BEYOND = 2, NOUGHT = 4;

    public static void main(String[] args) {
        bytesArePutCut();
        emptyTexts();
        blanks();
        noLetter();
        noDigit();
        digits();
        fifthDigit();
        numbersAtTheirLimits();
        stepsTogether();
        firstFault();
        faultAtTheEnd();
        playedInOrder();
        playedItemsLeaveTheOthers();
        playedTillAStepCannotBeDone();
        playedWithoutSteps();
        gatesOfNoSide();
        tideOfNoTidal();
        riversByHundredths();
        riversAtMost1000();
        playedFloaters();
        worldsAreEight();
        worldsAsTheyWere();
        weights();
        forgotten();
        alarmAtThatLevel();
        alarmBehindSomeStep();
        alarmOfWorldsThatStop();
        alarmOnCopies();
        alarmShutsNoToldSide();
        alarmLevels();
        noWeights();
        fractions();
        postsAreFour();
        gatesWithoutPosts();
        gatesLeastAlarm();
        gatesFewestSides();
        gatesLeastBits();
        gatesAheadOfTheWorlds();
        gatesShutAlready();
        Due.end();
    }

    private static int faultOf(String text) {
        SeaCells x = new SeaCells();
        Due.write(x, 0, text);
        return x.fault(0);
    }

    private static void bytesArePutCut() {
        Due.says("put: Byte i of a TEXT is v, cut to a byte (-128 .. 127): what it was, and 1000 more");
        SeaCells x = new SeaCells();
        x.text(0, 1);
        int was = 32;
        for (int v = -130; v <= 130; v++) {
            Due.is(x.put(0, 0, v), 1000 + was);
            was = v < -128 ? v + 256 : v > 127 ? v - 256 : v;
        }
        for (int v : new int[] {256, 257, 383, 384, -256, -257, 65536 + 65, Integer.MAX_VALUE, Integer.MIN_VALUE}) {
            Due.is(x.put(0, 0, v), 1000 + was);
            was = (v & 255) > 127 ? (v & 255) - 256 : v & 255;
        }
        Due.is(x.put(0, 0, 0), 1000);
    }

    private static void emptyTexts() {
        Due.says("fault: The first place of a FAULT of a TEXT; NONE: there is none");
        Due.is(faultOf(""), NONE);
        for (int n = 0; n <= 40; n++) {
            SeaCells x = new SeaCells();
            x.text(0, n);
            Due.is(x.fault(0), NONE);
            x.board(0, 0, 2, 1);
            Due.is(x.play(0, 0), 0);
        }
    }

    private static void blanks() {
        Due.says("items, one behind the other, with blanks (32) ahead, between, behind as many as wanted");
        Due.is(faultOf("S1S2"), NONE);
        Due.is(faultOf("S1 S2"), NONE);
        Due.is(faultOf("                S1           S2         "), NONE);
        // but not between a letter, its - and its number
        Due.is(faultOf("S 1"), 1);
        Due.is(faultOf("W -1"), 1);
        Due.is(faultOf("W- 1"), 2);
        Due.is(faultOf("S1 2"), 3);
        Due.is(faultOf("W1 -"), 3);
    }

    private static void noLetter() {
        Due.says("A FAULT: the first place (of a byte) at which it can't go on so: no letter as told");
        for (int v = -128; v < 128; v++) {
            SeaCells x = new SeaCells();
            Due.write(x, 0, " ?1");
            x.put(0, 1, v);
            boolean letter = v == 'W' || v == 'V' || v == 'S' || v == 'G' || v == 'T' || v == 'P' || v == 'R';
            Due.is(x.fault(0), letter ? NONE : v == ' ' ? 2 : 1);
        }
    }

    private static void noDigit() {
        Due.says("no digit behind the letter (and -)");
        for (int v = -128; v < 128; v++) {
            SeaCells x = new SeaCells();
            Due.write(x, 0, "T? T-?");
            x.put(0, 1, v);
            x.put(0, 5, v);
            boolean digit = v >= '0' && v <= '9';
            Due.is(x.fault(0), digit ? NONE : v == '-' ? 2 : 1);
            x.put(0, 1, '0');
            Due.is(x.fault(0), digit ? NONE : 5);
        }
        Due.is(faultOf("T"), 1);
        Due.is(faultOf("T-"), 2);
        Due.is(faultOf("T--1"), 2);
        Due.is(faultOf("TT1"), 1);
    }

    private static void digits() {
        Due.says("a number (digits, 1 to 4 of them, perhaps a - (45) ahead)");
        for (String number : new String[] {"5", "05", "005", "0005", "-5", "-05", "-005", "-0005"}) {
            Due.is(faultOf("W" + number), NONE);
            SeaCells x = Seas.two(900, 900);
            x.law(0, 4, 1000);
            Due.write(x, 0, "W" + number + "S1");
            Due.is(x.play(0, 0), 1);
            Due.told(x, x.flow(0, 0), number.charAt(0) == '-' ? -5 : 5);
        }
        Due.is(faultOf("W+5"), 1);
        Due.is(faultOf("W5-"), 2);
        Due.is(faultOf("S-0P0001"), NONE);
    }

    private static void fifthDigit() {
        Due.says("a fifth digit");
        Due.is(faultOf("W00005"), 5);
        Due.is(faultOf("W-00005"), 6);
        Due.is(faultOf("G9999"), NONE);
        Due.is(faultOf("G99999"), 5);
        Due.is(faultOf("  G00000000"), 7);
        // ahead of it the number is not yet one that is not as told
        Due.is(faultOf("P99999"), 5);
        Due.is(faultOf("S99990"), 5);
        Due.is(faultOf("W-99999"), 6);
    }

    private static void numbersAtTheirLimits() {
        Due.says("W, V (-50 .. 50), S (0 .. 24), G (0 .. 9999), T (-500 .. 500), P (1 .. 8), R (0 .. 1000); a number that"
                + " is not as told (at its letter)");
        String letters = "WVSGTPR";
        int[] least = {-50, -50, 0, 0, -500, 1, 0};
        int[] greatest = {50, 50, 24, 9999, 500, 8, 1000};
        for (int k = 0; k < 7; k++) {
            char letter = letters.charAt(k);
            Due.is(faultOf(" " + letter + least[k]), NONE);
            Due.is(faultOf(" " + letter + greatest[k]), NONE);
            Due.is(faultOf(" " + letter + (least[k] - 1)), 1);
            // of 10000 the fifth digit comes first
            Due.is(faultOf(" " + letter + (greatest[k] + 1)), letter == 'G' ? 6 : 1);
            Due.is(faultOf("P8 " + letter + "-9999"), 3);
            Due.is(faultOf("P8 " + letter + "9999"), letter == 'G' ? NONE : 3);
        }
    }

    private static void stepsTogether() {
        Due.says("All STEPS of a TEXT together are 24 at most (a FAULT at the letter of the S with which it is more)");
        Due.is(faultOf("S24"), NONE);
        Due.is(faultOf("S24 S0"), NONE);
        Due.is(faultOf("S24 S1"), 4);
        Due.is(faultOf("S0 S25"), 3);
        Due.is(faultOf("S12W1S12V1"), NONE);
        Due.is(faultOf("S12W1S13V1"), 5);
        Due.is(faultOf("S8S8S8S1S8"), 6);
        Due.is(faultOf("S1S1S1S1S1S1S1S1S1S1S1S1S1S1S1S1S1S1S1S5"), NONE);
        Due.is(faultOf("S1S1S1S1S1S1S1S1S1S1S1S1S1S1S1S1S1S1S1S6"), 38);
        // of each TEXT by itself
        SeaCells x = new SeaCells();
        Due.write(x, 0, "S24");
        Due.write(x, 1, "S24");
        for (int t = 0; t < 2; t++) Due.is(x.fault(t), NONE);
    }

    private static void firstFault() {
        Due.says("A FAULT: the first place (of a byte) at which it can't go on so");
        Due.is(faultOf("X W S99 S"), 0);
        Due.is(faultOf("S1 W51 X"), 3);
        Due.is(faultOf("S1 X W51"), 3);
        Due.is(faultOf("S1W W51"), 3);
        Due.is(faultOf("S20 S20 W"), 4);
        Due.is(faultOf("S20 W S20"), 5);
    }

    private static void faultAtTheEnd() {
        Due.says("no digit behind the letter (the TEXT ends there)");
        SeaCells x = new SeaCells();
        Due.write(x, 0, "                                      W1");
        Due.is(x.fault(0), NONE);
        x.put(0, 39, 'W');
        Due.is(x.fault(0), 39);
        x.put(0, 38, ' ');
        Due.is(x.fault(0), 40);
        x.put(0, 38, 'W');
        x.put(0, 39, '-');
        Due.is(x.fault(0), 40);
        // what stood behind it in a longer one is not there
        x.text(0, 40);
        for (int i = 0; i < 40; i++) x.put(0, i, 'X');
        x.text(0, 1);
        Due.is(x.fault(0), NONE);
        x.put(0, 0, 'S');
        Due.is(x.fault(0), 1);
    }

    private static void playedInOrder() {
        Due.says("PLAYED on a BOARD the items are done in order");
        SeaCells x = Seas.two(900, 900);
        x.law(0, 4, 1000);
        Due.write(x, 0, "W9 S1 W-4 S1 W1 P8");
        Due.is(x.play(0, 0), 2);
        // 9; then 9, less 18 by 2, less 4
        Due.told(x, x.flow(0, 0), -4);
        Due.told(x, x.cell(0, 0, 1), 900 - 9 + 4);
        x.water(0, 0, 900);
        x.water(0, 1, 892);
        // the last W and P stay: -4, 8, 1
        x.step(0, 1);
        Due.told(x, x.flow(0, 0), 5);
        SeaCells y = Seas.two(900, 900);
        Due.write(y, 0, "G0G0G0");
        Due.is(y.play(0, 0), 0);
        Due.is(y.gate(0, 0, false), 1);
    }

    private static void playedItemsLeaveTheOthers() {
        Due.says("W x of WIND, V y of WIND, .. P PULL");
        SeaCells x = new SeaCells();
        x.board(0, 0, 2, 2);
        x.law(0, 4, 1000);
        x.wind(0, 7, 8);
        for (int c = 0; c < 4; c++) x.water(0, c, 900);
        x.keep(0, 1);
        x.keep(0, 2);
        x.keep(0, 3);
        Due.write(x, 0, "W-20S1");
        Due.write(x, 1, "V-30S1");
        Due.write(x, 2, "P8S1");
        int[][] due = {{-20, 8}, {7, -30}, {7, 8}};
        for (int b = 0; b < 3; b++) {
            Due.is(x.play(b, b), 1);
            Due.told(x, x.flow(b, 0), due[b][0]);
            Due.told(x, x.flow(b, 1), due[b][1]);
            Due.told(x, x.flow(b, 3), due[b][1]);
            Due.told(x, x.flow(b, 4), due[b][0]);
        }
        // P leaves DRAG: 8 times 15 by 8, and 7
        x.water(3, 0, 915);
        Due.is(x.play(3, 2), 1);
        Due.told(x, x.flow(3, 0), 22);
    }

    private static void playedTillAStepCannotBeDone() {
        Due.says("the items are done in order, till a STEP can't be done; play: how many STEPS were done");
        SeaCells x = Seas.two(99990, 0);
        x.gate(0, 0, true);
        x.river(0, 0, 5);
        Due.write(x, 0, "S1 W9 S3 P1 G0");
        Due.is(x.play(0, 0), 2);
        Due.told(x, x.told(0, 3), 2);
        Due.is(x.gate(0, 0, true), 1);
        Due.is(x.play(0, 0), 0);
        // W was done ahead of it, P was not
        x.gate(0, 0, false);
        x.law(0, 4, 1000);
        x.water(0, 0, 500);
        x.water(0, 1, 500);
        x.step(0, 1);
        Due.told(x, x.flow(0, 0), 9);
        Due.write(x, 0, "S24");
        x.water(0, 0, 0);
        Due.is(x.play(0, 0), 24);
    }

    private static void playedWithoutSteps() {
        Due.says("S so many STEPS (0 .. 24)");
        SeaCells x = Seas.two(80, 0);
        long digest = x.digest();
        for (String text : new String[] {"", "   ", "S0", "S0 S00 S-0"}) {
            Due.write(x, 0, text);
            Due.is(x.play(0, 0), 0);
            x.burn(0);
            Due.is(x.digest(), digest);
        }
    }

    private static void gatesOfNoSide() {
        Due.says("G of a SIDE that there is not .. do nothing");
        SeaCells x = new SeaCells();
        x.board(0, 0, 3, 2);
        long digest = x.digest();
        for (int side : new int[] {4, 7, 9, 10, 11, 12, 95, 96, 9999}) {
            Due.write(x, 0, "G" + side);
            Due.is(x.play(0, 0), 0);
            x.burn(0);
            Due.is(x.digest(), digest);
        }
        Due.write(x, 0, "G0G1G2G3G5G6G8");
        Due.is(x.play(0, 0), 0);
        for (int side : new int[] {0, 1, 2, 3, 5, 6, 8}) Due.is(x.gate(0, side, true), 1);
        // what is shut is opened
        Due.is(x.play(0, 0), 0);
        for (int side : new int[] {0, 1, 2, 3, 5, 6, 8}) Due.is(x.gate(0, side, true), 0);
    }

    private static void tideOfNoTidal() {
        Due.says("T on one that is not TIDAL do nothing");
        SeaCells x = new SeaCells();
        Due.rowOf(x, 0, 600);
        x.board(0, 0, 2, 1);
        x.board(1, 1, 2, 1);
        x.nest(2, 0, 0, 0, 1, 1);
        x.board(3, 3, 2, 1);
        x.tide(1, 0, 7);
        x.tide(3, 0, 7);
        for (String more : new String[] {"-500", "500", "0"}) {
            Due.write(x, 0, "T" + more + "S1");
            for (int b = 0; b < 4; b++) Due.is(x.play(b, 0), 1);
            Due.told(x, x.told(0, 4), 0);
            Due.told(x, x.told(2, 4), 0);
            Due.told(x, x.cell(1, 0, 2), 600 + Integer.parseInt(more));
            Due.told(x, x.cell(3, 0, 2), 600 + Integer.parseInt(more));
        }
    }

    private static int rains(int much, String item) {
        SeaCells x = Seas.two(0, 0);
        x.river(0, 0, much);
        Due.write(x, 0, item + "S1");
        Due.is(x.play(0, 0), 1);
        return (int) Due.tell(x, x.told(0, 5));
    }

    private static void riversByHundredths() {
        Due.says("R all RIVERS bring so many hundredths (0 .. 1000, cut ..)");
        int[][] due = {{100, 0, 0}, {100, 100, 100}, {99, 1, 0}, {100, 1, 1}, {199, 1, 1}, {3, 50, 1}, {1, 99, 0},
            {1, 100, 1}, {1, 199, 1}, {1, 200, 2}, {7, 1000, 70}, {0, 1000, 0}};
        for (int[] k : due) Due.is(rains(k[0], "R" + k[1]), k[2]);
        SeaCells x = Seas.two(0, 0);
        for (int k = 0; k < 4; k++) x.river(0, k % 2, 10 + k);
        Due.write(x, 0, "R50S1");
        x.play(0, 0);
        Due.told(x, x.told(0, 5), 5 + 5 + 6 + 6);
        // a RIVER that is told behind it brings what it was told to
        SeaCells y = Seas.two(0, 0);
        Due.write(y, 0, "R0S1");
        y.play(0, 0);
        y.river(0, 0, 8);
        y.step(0, 1);
        Due.told(y, y.told(0, 5), 8);
    }

    private static void riversAtMost1000() {
        Due.says("R all RIVERS bring so many hundredths (.. at most 1000)");
        int[][] due = {{100, 1000, 1000}, {101, 1000, 1000}, {1000, 100, 1000}, {1000, 101, 1000}, {1000, 1000, 1000},
            {999, 100, 999}, {500, 200, 1000}, {500, 199, 995}, {501, 200, 1000}};
        for (int[] k : due) Due.is(rains(k[0], "R" + k[1]), k[2]);
        // they bring that much then, and what comes next is of that
        Due.is(rains(1000, "R1000R50"), 500);
        Due.is(rains(7, "R50R200"), 6);
    }

    private static void playedFloaters() {
        Due.says("play: A TEXT is PLAYED on a BOARD (BOATS drift, GAUGES read)");
        SeaCells x = Seas.two(100, 0);
        x.boat(0, 0, 0, 1);
        x.gauge(0, 0, 1);
        Due.write(x, 0, "S2");
        Due.is(x.play(0, 0), 2);
        Due.is(x.where(0), 1);
        Due.told(x, x.reading(0, 1), 45);
        Due.told(x, x.reading(0, 0), 90);
        Due.is(x.reading(0, 2), NONE);
    }

    private static void worldsAreEight() {
        Due.says("WORLDS 0 .. 7 at most; world: A WORLD: its number");
        SeaCells x = Seas.two(100, 0);
        x.text(0, 0);
        for (int k = 0; k < 8; k++) Due.is(x.world(0, k), k);
        Due.is(x.world(0, 1), FULL);
        Due.is(x.count(5), 8);
        x.forget();
        for (int k = 0; k < 8; k++) Due.is(x.world(0, k), k);
        Due.is(x.world(0, 1), FULL);
    }

    private static void worldsAsTheyWere() {
        Due.says("a TEXT's bytes as they were");
        SeaCells x = Seas.two(100, 0);
        Due.write(x, 0, "S1");
        x.world(0, 1);
        x.put(0, 1, '0');
        x.world(0, 1);
        x.put(0, 0, 'X');
        alarmIs(x, 45, 1, 2);
        x.burn(0);
        alarmIs(x, 45, 1, 2);
        x.text(0, 40);
        alarmIs(x, 45, 1, 2);
        // one that took the place of a longer one
        x.forget();
        Due.write(x, 0, "S1 S1 P8 S1");
        x.world(0, 1);
        x.forget();
        Due.write(x, 0, "S1");
        x.world(0, 1);
        alarmIs(x, 46, 0, 1);
    }

    private static void weights() {
        Due.says("a weight (0 .. 99)");
        SeaCells x = Seas.two(100, 0);
        Due.write(x, 0, "S1");
        Due.write(x, 1, "S0");
        int[] answers = {x.world(0, -1), x.world(0, 0), x.world(0, 99), x.world(1, 1), x.world(0, 100)};
        int[] due = {-1, 0, 1, 2, -1};
        for (int k = 0; k < 5; k++) Due.is(answers[k], due[k]);
        alarmIs(x, 45, 99, 100);
    }

    private static void forgotten() {
        Due.says("forget: All WORLDS go: how many there were");
        SeaCells x = Seas.two(100, 0);
        Due.is(x.forget(), 0);
        x.text(0, 0);
        for (int n = 0; n <= 8; n++) {
            for (int k = 0; k < n; k++) x.world(0, 9);
            Due.is(x.forget(), n);
            Due.is(x.count(5), 0);
            Due.finds(x, () -> x.alarm(0, 0, 0), NOUGHT);
        }
    }

    /** THE ALARM of CELL 1 of BOARD 0. */
    private static void alarmIs(SeaCells x, int level, long upper, long lower) {
        Due.is(x.alarm(0, 1, level), 1);
        Due.is(x.upper(), upper);
        Due.is(x.lower(), lower);
    }

    private static void alarmAtThatLevel() {
        Due.says("the CELL comes to that LEVEL or more");
        SeaCells x = Seas.two(100, 0);
        Due.write(x, 0, "S1");
        x.world(0, 1);
        alarmIs(x, 44, 1, 1);
        alarmIs(x, 45, 1, 1);
        alarmIs(x, 46, 0, 1);
        // the LEVEL, not the WATER
        x.bottom(0, 1, -5);
        alarmIs(x, 42, 1, 1);
        alarmIs(x, 43, 0, 1);
    }

    private static void alarmBehindSomeStep() {
        Due.says("behind some STEP");
        SeaCells x = Seas.two(0, 100);
        Due.write(x, 0, "W9");
        x.world(0, 3);
        Due.write(x, 0, "S1");
        x.world(0, 2);
        Due.write(x, 0, "S0S2");
        x.world(0, 1);
        // ahead of all STEPS it has 100; then 55, 10
        alarmIs(x, 100, 0, 1);
        alarmIs(x, 56, 0, 1);
        alarmIs(x, 55, 1, 2);
        alarmIs(x, 11, 1, 2);
        alarmIs(x, -1000, 1, 2);
        // not behind the last one alone: CELL 1 has 45, 90, 95, 59 beside 100
        SeaCells y = Seas.two(100, 0);
        Due.write(y, 0, "S4");
        y.world(0, 1);
        alarmIs(y, 95, 1, 1);
        alarmIs(y, 96, 0, 1);
        // what the items ahead of a STEP do counts
        SeaCells z = Seas.two(100, 0);
        Due.write(z, 0, "G0S9G0S1");
        z.world(0, 1);
        alarmIs(z, 45, 1, 1);
        alarmIs(z, 46, 0, 1);
    }

    private static void alarmOfWorldsThatStop() {
        Due.says("(A WORLD in which a STEP can't be done goes no further.)");
        SeaCells x = Seas.two(0, 99990);
        x.gate(0, 0, true);
        x.river(0, 1, 5);
        Due.write(x, 0, "S3 R0 W9 S1");
        x.world(0, 1);
        alarmIs(x, 99995, 1, 1);
        alarmIs(x, 100000, 1, 1);
        alarmIs(x, 100001, 0, 1);
        x.river(0, 1, 6);
        alarmIs(x, 99991, 0, 1);
        alarmIs(x, -1000, 0, 1);
    }

    private static void alarmOnCopies() {
        Due.says("in which, PLAYED on a copy, the CELL comes to that LEVEL");
        SeaCells x = Seas.two(100, 0);
        x.boat(0, 0, 0, 1);
        x.gauge(0, 0, 1);
        x.river(0, 0, 4);
        x.post(0, 0);
        Due.write(x, 0, "G0W50R0P1S2");
        x.world(0, 1);
        Due.write(x, 0, "S1");
        x.world(0, 1);
        long digest = x.digest();
        for (int turn = 0; turn < 2; turn++) {
            alarmIs(x, 45, 1, 2);
            Due.is(x.gates(0, 1, 1), 0);
            Due.is(x.digest(), digest);
        }
        x.step(0, 1);
        Due.told(x, x.flow(0, 0), 45);
        Due.told(x, x.told(0, 5), 4);
    }

    private static void alarmShutsNoToldSide() {
        Due.says("THE ALARM of a BOARD, a CELL and a LEVEL: .. PLAYED on a copy (told SIDES are shut for THE GATES alone)");
        int[] sides = {0, 2, 4, 6};
        for (int told = 0; told <= 4; told++) {
            SeaCells x = Seas.line(100, 0, 100, 0, 100);
            Due.write(x, 0, "S1");
            x.world(0, 1);
            for (int k = 0; k < told; k++) x.post(0, sides[k]);
            // from both sides 45 comes
            for (int cell = 1; cell < 4; cell += 2) {
                Due.is(x.alarm(0, cell, 90), 1);
                Due.is(x.upper(), 1);
            }
            // of the four ways each one told can hold it up
            Due.is(x.gates(0, 3, 90), told < 3 ? 0 : 4);
            Due.is(x.upper(), told < 3 ? 1 : 0);
            Due.is(x.alarm(0, 3, 90), 1);
            Due.is(x.upper(), 1);
        }
    }

    private static void alarmLevels() {
        Due.says("BAD: also a LEVEL beyond -1000 .. 101000");
        SeaCells x = Seas.two(100, 0);
        Due.write(x, 0, "S1");
        x.world(0, 1);
        alarmIs(x, -1000, 1, 1);
        alarmIs(x, 101000, 0, 1);
        Due.is(x.alarm(0, 1, -1001), -1);
        Due.is(x.alarm(0, 1, 101001), -1);
        Due.is(x.gates(0, 1, -1000), 0);
        Due.is(x.gates(0, 1, 101000), 0);
        Due.is(x.gates(0, 1, -1001), -1);
        Due.is(x.gates(0, 1, 101001), -1);
        // the greatest LEVEL that there can be
        SeaCells y = Seas.two(0, 100000);
        y.bottom(0, 1, 1000);
        y.gate(0, 0, true);
        Due.write(y, 0, "S1");
        y.world(0, 1);
        alarmIs(y, 101000, 1, 1);
    }

    private static void noWeights() {
        Due.says("NOUGHT: no weights");
        SeaCells x = Seas.two(100, 0);
        Due.finds(x, () -> x.alarm(0, 1, 0), NOUGHT);
        Due.finds(x, () -> x.gates(0, 1, 0), NOUGHT);
        Due.write(x, 0, "S1");
        for (int k = 0; k < 7; k++) x.world(0, 0);
        Due.finds(x, () -> x.alarm(0, 1, 0), NOUGHT);
        Due.finds(x, () -> x.gates(0, 1, 0), NOUGHT);
        Due.is(x.upper(), 0);
        Due.is(x.lower(), 1);
        x.world(0, 1);
        alarmIs(x, 0, 1, 1);
        Due.is(x.gates(0, 1, 0), 0);
    }

    private static void fractions() {
        Due.says("Fractions are told by upper() and lower(), in lowest terms, the lower number above 0 (0 by 1)");
        int[] weights = {0, 1, 2, 3, 6, 49, 50, 98, 99};
        for (int with : weights) {
            for (int without : weights) {
                SeaCells x = Seas.two(100, 0);
                Due.write(x, 0, "S1");
                x.world(0, with);
                Due.write(x, 0, "");
                x.world(0, without);
                if (with + without == 0) continue;
                int by = gcd(with, with + without);
                alarmIs(x, 45, with / by, (with + without) / by);
                Due.is(x.gates(0, 1, 45), 0);
                Due.is(x.upper(), with / by);
                Due.is(x.lower(), (with + without) / by);
            }
        }
        // as much as there can be: 7 times 99 of 791
        SeaCells y = Seas.two(100, 0);
        Due.write(y, 0, "S1");
        for (int k = 0; k < 7; k++) y.world(0, 99);
        Due.write(y, 0, "");
        y.world(0, 98);
        alarmIs(y, 45, 99, 113);
    }

    private static int gcd(int a, int b) {
        return a == 0 ? b : gcd(b % a, a);
    }

    private static void postsAreFour() {
        Due.says("post: A SIDE more for THE GATES of a BOARD: how many (4 at most)");
        SeaCells x = new SeaCells();
        x.board(0, 0, 3, 2);
        x.board(1, 0, 3, 2);
        int[] sides = {8, 0, 0, 3};
        for (int k = 0; k < 4; k++) Due.is(x.post(0, sides[k]), k + 1);
        Due.is(x.post(0, 1), FULL);
        Due.finds(x, () -> x.post(0, 4), BEYOND);
        Due.finds(x, () -> x.post(2, 4), NOTHING);
        // of each BOARD its own
        Due.is(x.post(1, 8), 1);
        // a BOARD anew has none
        x.board(0, 0, 3, 2);
        Due.is(x.post(0, 8), 1);
        // telling a SIDE shuts none
        Due.is(x.gate(0, 8, false), 0);
    }

    private static void gatesWithoutPosts() {
        Due.says("of all sets of told SIDES (none told: the set of none)");
        SeaCells x = Seas.two(100, 0);
        Due.write(x, 0, "S1");
        x.world(0, 4);
        gatesAre(x, 1, 45, 0, 1, 1);
        gatesAre(x, 1, 46, 0, 0, 1);
    }

    private static void gatesAre(SeaCells x, int cell, int level, int set, long upper, long lower) {
        Due.is(x.gates(0, cell, level), set);
        Due.is(x.upper(), upper);
        Due.is(x.lower(), lower);
    }

    private static void gatesLeastAlarm() {
        Due.says("THE GATES: of all sets of told SIDES that with the least ALARM");
        // from both sides WATER comes: one shut leaves 36, both none, none shut 72
        SeaCells x = Seas.line(80, 0, 80);
        Due.write(x, 0, "S1");
        x.world(0, 1);
        x.post(0, 2);
        x.post(0, 0);
        gatesAre(x, 1, 73, 0, 0, 1);
        gatesAre(x, 1, 72, 1, 0, 1);
        gatesAre(x, 1, 37, 1, 0, 1);
        gatesAre(x, 1, 36, 3, 0, 1);
        gatesAre(x, 1, 1, 3, 0, 1);
        gatesAre(x, 1, 0, 0, 1, 1);
        // of 16 sets the one of all four
        SeaCells y = new SeaCells();
        y.board(0, 0, 3, 3);
        for (int c = 1; c < 9; c += 2) y.water(0, c, 80);
        Due.write(y, 0, "S1");
        y.world(0, 1);
        for (int side : new int[] {8, 9, 6, 3}) y.post(0, side);
        gatesAre(y, 4, 1, 15, 0, 1);
    }

    private static void gatesFewestSides() {
        Due.says("of these the fewest SIDES");
        // the third told SIDE alone serves, as the first two together do
        SeaCells x = new SeaCells();
        x.board(0, 0, 3, 2);
        x.water(0, 0, 100);
        x.water(0, 2, 100);
        Due.write(x, 0, "S2");
        x.world(0, 1);
        for (int side : new int[] {1, 5, 6, 8}) x.gate(0, side, true);
        x.post(0, 0);
        x.post(0, 2);
        x.post(0, 3);
        gatesAre(x, 4, 1, 4, 0, 1);
        // none serves: the fewest SIDES are none
        gatesAre(x, 4, 0, 0, 1, 1);
    }

    private static void gatesLeastBits() {
        Due.says("then the least bits (bits: by the order in which SIDES were told)");
        // each of the SIDES on the way serves alone
        SeaCells x = Seas.line(0, 200, 0, 0, 0);
        Due.write(x, 0, "S3");
        x.world(0, 1);
        int[] told = {0, 6, 4, 2};
        for (int side : told) x.post(0, side);
        gatesAre(x, 4, 1, 2, 0, 1);
        gatesAre(x, 3, 1, 4, 0, 1);
        gatesAre(x, 2, 1, 8, 0, 1);
        gatesAre(x, 0, 1, 1, 0, 1);
        // the same SIDE told twice: the first of both
        SeaCells y = Seas.two(100, 0);
        Due.write(y, 0, "S1");
        y.world(0, 1);
        y.post(0, 0);
        y.post(0, 0);
        gatesAre(y, 1, 45, 1, 0, 1);
    }

    private static void gatesAheadOfTheWorlds() {
        Due.says("(.. shut ahead of the WORLDS)");
        SeaCells x = Seas.two(100, 0);
        x.post(0, 0);
        Due.write(x, 0, "S1");
        x.world(0, 3);
        Due.write(x, 0, "G0S1");
        x.world(0, 4);
        // a WORLD opens what was shut ahead of it: 4 of 7 with it, 3 of 7 without
        gatesAre(x, 1, 45, 0, 3, 7);
        x.world(0, 1);
        x.forget();
        Due.write(x, 0, "G0S1");
        x.world(0, 4);
        gatesAre(x, 1, 45, 0, 0, 1);
        Due.is(x.gate(0, 0, false), 0);
    }

    private static void gatesShutAlready() {
        Due.says("of all sets of told SIDES: one that is shut stays so in each");
        SeaCells x = Seas.two(100, 0);
        x.post(0, 0);
        x.gate(0, 0, true);
        Due.write(x, 0, "S1");
        x.world(0, 1);
        gatesAre(x, 1, 45, 0, 0, 1);
        Due.write(x, 0, "G0S1");
        x.world(0, 1);
        gatesAre(x, 1, 45, 0, 1, 2);
        Due.is(x.gate(0, 0, true), 1);
        Due.is(x.play(0, 1), SeaCells.FINDING);
        Due.write(x, 1, "S");
        Due.is(x.play(0, 1), STATE);
    }
}
