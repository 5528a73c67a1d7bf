import java.util.function.ToIntFunction;

/** The edges that promises 1 to 27 and 47 to 54 name, and those of what calls answer (ANSWERS). */
public final class CallEdgesTest {
    private static final int BAD = -1, FULL = -2, STATE = -4, NONE = -9;
    private static final int NOTHING = 1, BEYOND = 2, UNLIKE = 3, NOUGHT = 4, SIZE = 5;

    public static void main(String[] args) {
        newObject();
        cutIsTowards0();
        rowAnew();
        layAtItsLimits();
        copyToItself();
        copyOfNone();
        copyAsManyAsThereAre();
        meanWithoutNone();
        textAnew();
        boardAnew();
        boardAnewHasNoTide();
        boardTakesNestsAlong();
        dropAtWhateverDepth();
        dropOfANestAlone();
        gateAnswers();
        lawsAreTakenTogether();
        riverAnswersHowMany();
        tideOfATidalBoard();
        stepsAsManyAsCanBe();
        toldOfABoard();
        markOfEachKind();
        keepToAPlace();
        keepNests();
        keepNoFloaters();
        mirrorOfAllWidths();
        mirrorOfEach();
        mirrorOfFlows();
        mirrorLeavesTheRim();
        mirrorRefused();
        askedStaysBehindOthers();
        askedOfEach();
        upperAndLower();
        counts();
        findingsEach();
        findingIsTheLatest();
        digestOfMissing();
        digestByHand();
        digestIsOfAll();
        digestLeavesAsked();
        Due.end();
    }

    private static void newObject() {
        Due.says("SeaCells(): No ROWS, TEXTS, BOARDS, BOATS, GAUGES, WORLDS");
        for (int what = 0; what <= 5; what++) Due.is(new SeaCells().count(what), 0);
        SeaCells x = new SeaCells();
        long[] first = {x.asked(), x.strength(), x.upper(), x.lower(), x.finding(), x.forget(), x.part(true)};
        long[] due = {0, 0, 0, 1, 0, 0, STATE};
        for (int k = 0; k < 7; k++) Due.is(first[k], due[k]);
        for (int f = 1; f <= 5; f++) Due.is(x.findings(f), 0);
        // one object knows nothing of another
        Seas.rich();
        Due.is(new SeaCells().digest(), x.digest());
    }

    private static void cutIsTowards0() {
        Due.says("Cut is towards 0, unless it says down");
        int[][] means = {{-1, -2, -1}, {1, 2, 1}, {-1, 0, 0}, {1, 0, 0}, {-3, -4, -3}, {99, 100, 99}, {-5, 4, 0}};
        SeaCells x = new SeaCells();
        for (int[] k : means) {
            Due.rowOf(x, 0, k[0], k[1]);
            Due.told(x, x.mean(0), k[2]);
        }
        SeaCells y = Seas.two(10, 11);
        y.law(0, 7, 1000);
        y.step(0, 1);
        Due.told(y, y.flow(0, 0), 0);
    }

    private static void rowAnew() {
        Due.says("row: A ROW is there with n ints 0: n");
        SeaCells x = new SeaCells();
        for (int n : new int[] {48, 1, 0, 48}) {
            Due.is(x.row(2, n), n);
            for (int i = 0; i < n; i++) Due.told(x, x.lay(2, i, 7), 0);
        }
        Due.is(x.count(0), 1);
    }

    private static void layAtItsLimits() {
        Due.says("lay: v (-100000 .. 100000; NONE is told as -9, too): what it was, told by asked(): 1");
        SeaCells x = new SeaCells();
        x.row(0, 48);
        for (int i : new int[] {0, 47}) {
            int was = 0;
            for (int v : new int[] {100000, -100000, NONE, 0, -10, -8, 99999}) {
                Due.told(x, x.lay(0, i, v), was);
                was = v;
            }
        }
        for (int v : new int[] {100001, -100001}) Due.is(x.lay(0, 0, v), BAD);
        Due.told(x, x.lay(0, 0, 0), 99999);
    }

    private static void rowIs(SeaCells x, int r, int... due) {
        for (int i = 0; i < due.length; i++) Due.told(x, x.lay(r, i, due[i]), due[i]);
    }

    private static void copyToItself() {
        Due.says("come to those of another one (perhaps itself) from one on, as if taken ahead: 1");
        SeaCells x = new SeaCells();
        Due.rowOf(x, 0, 1, 2, 3, 4, 5, 6);
        Due.is(x.copy(0, 0, 0, 2, 4), 1);
        rowIs(x, 0, 1, 2, 1, 2, 3, 4);
        Due.rowOf(x, 0, 1, 2, 3, 4, 5, 6);
        Due.is(x.copy(0, 2, 0, 0, 4), 1);
        rowIs(x, 0, 3, 4, 5, 6, 5, 6);
        Due.is(x.copy(0, 0, 0, 0, 6), 1);
        rowIs(x, 0, 3, 4, 5, 6, 5, 6);
        Due.is(x.copy(0, 0, 0, 5, 1), 1);
        rowIs(x, 0, 3, 4, 5, 6, 5, 3);
    }

    private static void copyOfNone() {
        Due.says("copy: n places of a ROW (n 0: none); SIZE: n below 0; BEYOND: not so many there");
        SeaCells x = new SeaCells();
        Due.rowOf(x, 0, 1, 2);
        x.row(1, 0);
        Due.is(x.copy(0, 0, 1, 0, 0), 1);
        Due.is(x.copy(1, 0, 1, 0, 0), 1);
        Due.is(x.copy(0, 2, 1, 0, 0), 1);
        Due.is(x.copy(1, 0, 0, 2, 0), 1);
        Due.finds(x, () -> x.copy(0, 3, 1, 0, 0), BEYOND);
        Due.finds(x, () -> x.copy(0, 0, 1, 1, 0), BEYOND);
        Due.finds(x, () -> x.copy(1, 0, 0, -1, 0), BEYOND);
        Due.finds(x, () -> x.copy(0, 0, 1, 0, -1), SIZE);
        Due.finds(x, () -> x.copy(0, 0, 2, 0, 0), NOTHING);
        rowIs(x, 0, 1, 2);
    }

    private static void copyAsManyAsThereAre() {
        Due.says("copy: BEYOND: not so many there");
        SeaCells x = new SeaCells();
        x.row(0, 48);
        x.row(1, 48);
        for (int i = 0; i < 48; i++) x.lay(0, i, i);
        Due.is(x.copy(0, 0, 1, 0, 48), 1);
        Due.finds(x, () -> x.copy(0, 0, 1, 0, 49), BEYOND);
        Due.finds(x, () -> x.copy(0, 1, 1, 0, 48), BEYOND);
        Due.finds(x, () -> x.copy(0, 0, 1, 1, 48), BEYOND);
        Due.is(x.copy(0, 47, 1, 0, 1), 1);
        Due.told(x, x.lay(1, 0, 0), 47);
        Due.told(x, x.lay(1, 47, 0), 47);
        Due.told(x, x.lay(1, 1, 0), 1);
    }

    private static void meanWithoutNone() {
        Due.says("mean: The mean of a ROW's places that are not NONE, cut; NOUGHT");
        SeaCells x = new SeaCells();
        x.row(0, 48);
        Due.told(x, x.mean(0), 0);
        for (int i = 0; i < 48; i++) x.lay(0, i, i == 20 ? 100 : NONE);
        Due.told(x, x.mean(0), 100);
        x.lay(0, 20, NONE);
        Due.finds(x, () -> x.mean(0), NOUGHT);
        Due.is(x.asked(), 100);
        for (int i = 0; i < 48; i++) x.lay(0, i, -100000);
        Due.told(x, x.mean(0), -100000);
        x.row(0, 0);
        Due.finds(x, () -> x.mean(0), NOUGHT);
        Due.rowOf(x, 0, -8, -10);
        Due.told(x, x.mean(0), -9);
    }

    private static void textAnew() {
        Due.says("text: A TEXT is there with n blanks: n");
        SeaCells x = new SeaCells();
        for (int n : new int[] {40, 1, 0, 40}) {
            Due.is(x.text(2, n), n);
            for (int i = 0; i < n; i++) Due.is(x.put(2, i, 7), 1032);
        }
        Due.is(x.count(1), 1);
    }

    private static void boardAnew() {
        Due.says("board: A BOARD of KIND 0, 1 or 3 (anew; BOATS and GAUGES on it, NESTS in it are missing then)");
        SeaCells x = Seas.rich();
        long fresh = boardShown(fresh(), 0);
        Due.is(x.board(0, 0, 4, 3), 12);
        Due.is(x.where(0), NONE);
        Due.is(x.where(1) >= 0 ? 1 : 0, 1);
        Due.is(x.reading(0, 0), NONE);
        Due.is(x.reading(1, 0), 1);
        Due.is(x.count(2), 3);
        Due.is(boardShown(x, 0), fresh);
    }

    private static void boardAnewHasNoTide() {
        Due.says("board: A BOARD of KIND 0, 1 or 3 (anew ..): STEPS, RAIN, LENT 0, no RIVERS, no TIDE, none told by post()");
        for (int kind : new int[] {1, 3}) {
            SeaCells x = new SeaCells();
            x.board(0, kind, 2, 2);
            Due.rowOf(x, 0, 50, 70);
            x.tide(0, 0, 9);
            x.river(0, 1, 9);
            x.post(0, 0);
            x.step(0, 3);
            Due.told(x, x.mark(0, 1), 79);
            Due.is(x.board(0, kind, 2, 2), 4);
            Due.is(x.mark(0, 1), NONE);
            Due.is(x.step(0, 1), 1);
            int[] due = {kind, 2, 2, 1, 0, 0, 0, 0, 0, 0, 4};
            for (int what = 0; what <= 10; what++) Due.told(x, x.told(0, what), due[what]);
            Due.is(x.river(0, 0, 0), 1);
            Due.is(x.post(0, 0), 1);
        }
    }

    private static SeaCells fresh() {
        SeaCells x = new SeaCells();
        x.board(0, 0, 4, 3);
        return x;
    }

    /** What BOARD b of 4 by 3 CELLS has and, behind some STEPS, of what laws it was. */
    private static long boardShown(SeaCells x, int b) {
        long h = 17;
        for (int what = 0; what <= 10; what++) h = 31 * h + x.told(b, what) + x.asked();
        for (int side = 0; side < 24; side++) h = 31 * h + x.flow(b, side) + 7 * x.gate(b, side, false);
        for (int c = 0; c < 12; c++) h = 31 * h + x.water(b, c, 30 * c);
        x.step(b, 2);
        for (int what = 3; what <= 10; what++) h = 31 * h + x.told(b, what) + x.asked();
        for (int c = 0; c < 12; c++) h = 31 * h + x.cell(b, c, 1) + x.asked();
        return 31 * (31 * h + x.post(b, 0)) + x.river(b, 0, 1);
    }

    private static void boardTakesNestsAlong() {
        Due.says("board: (anew; .. NESTS in it are missing then); drop: (.. NESTS in it, too)");
        for (int way = 0; way < 4; way++) {
            SeaCells x = new SeaCells();
            x.board(0, 0, 4, 3);
            x.nest(1, 0, 0, 0, 2, 2);
            x.nest(2, 1, 0, 0, 1, 1);
            x.nest(3, 0, 2, 2, 1, 1);
            x.board(4, 0, 2, 1);
            x.nest(5, 4, 0, 0, 1, 1);
            for (int b = 0; b < 6; b++) {
                x.boat(b, b, 0, 1);
                x.gauge(b, b, 0);
            }
            // each makes what was in place 0 missing
            if (way == 0) Due.is(x.board(0, 0, 4, 3), 12);
            if (way == 1) Due.is(x.drop(0), 1);
            if (way == 2) Due.is(x.keep(4, 0), 2);
            if (way == 3) Due.is(x.nest(0, 4, 0, 0, 1, 1), 4);
            Due.is(x.count(2), way == 1 ? 2 : 3);
            for (int b = 0; b < 6; b++) Due.is(x.where(b), b >= 4 ? 0 : NONE);
            Due.is(x.count(4), 2);
            for (int b = 1; b < 4; b++) {
                int k = b;
                Due.finds(x, () -> x.told(k, 0), NOTHING);
            }
        }
    }

    private static void dropAtWhateverDepth() {
        Due.says("drop: A BOARD is missing (BOATS, GAUGES on it, NESTS in it, too): 1");
        // a chain of six, laid in both orders of places
        for (int way = 0; way < 2; way++) {
            for (int cut = 0; cut < 6; cut++) {
                SeaCells x = new SeaCells();
                x.board(way == 0 ? 0 : 5, 0, 2, 1);
                for (int k = 1; k < 6; k++) {
                    Due.is(x.nest(way == 0 ? k : 5 - k, way == 0 ? k - 1 : 6 - k, 0, 0, 1, 1), 4);
                }
                Due.is(x.drop(way == 0 ? cut : 5 - cut), 1);
                Due.is(x.count(2), cut);
            }
        }
    }

    private static void dropOfANestAlone() {
        Due.says("drop: A BOARD is missing (.. NESTS in it, too): what it lay on stays");
        SeaCells x = new SeaCells();
        x.board(0, 0, 4, 3);
        x.nest(1, 0, 0, 0, 1, 1);
        x.nest(2, 0, 1, 1, 1, 1);
        Due.is(x.mirror(0), STATE);
        Due.is(x.drop(1), 1);
        Due.is(x.mirror(0), STATE);
        Due.is(x.drop(2), 1);
        Due.is(x.mirror(0), 1);
        Due.is(x.count(2), 1);
        Due.finds(x, () -> x.drop(2), NOTHING);
    }

    private static void gateAnswers() {
        Due.says("gate: A SIDE is shut, or open: 1 if it was shut");
        SeaCells x = Seas.two(9, 9);
        boolean[] shut = {false, true, true, false, false, true};
        int was = 0;
        for (boolean s : shut) {
            Due.is(x.gate(0, 0, s), was);
            was = s ? 1 : 0;
        }
    }

    private static void lawsAreTakenTogether() {
        Due.says("law: PULL, DRAG of a BOARD: 1. wind: WIND of a BOARD: 1. BAD");
        SeaCells x = Seas.two(1000, 900);
        Due.is(x.law(0, 8, 1000), 1);
        Due.is(x.wind(0, 5, 5), 1);
        // one number that is not as told: the other one does not come either
        int[] answers = {x.law(0, 1, 1), x.law(0, 9, 2), x.wind(0, 51, 1), x.wind(0, 1, 51)};
        for (int answer : answers) Due.is(answer, BAD);
        x.step(0, 1);
        Due.told(x, x.flow(0, 0), 105);
    }

    private static void riverAnswersHowMany() {
        Due.says("river: A RIVER more: how many. BAD; FULL; NOTHING; BEYOND. (NOTHING ahead of FULL.)");
        SeaCells x = Seas.two(0, 0);
        for (int k = 1; k <= 4; k++) {
            Due.finds(x, () -> x.river(0, 2, 0), BEYOND);
            Due.is(x.river(0, 0, 0), k);
        }
        Due.is(x.river(0, 2, 0), FULL);
        Due.is(x.river(0, 0, 0), FULL);
        Due.finds(x, () -> x.river(1, 0, 0), NOTHING);
        x.drop(0);
        Due.finds(x, () -> x.river(0, 0, 0), NOTHING);
        x.board(0, 0, 2, 1);
        Due.is(x.river(0, 0, 0), 1);
    }

    private static void tideOfATidalBoard() {
        Due.says("tide: TIDE of a TIDAL BOARD: a ROW, MORE: 1. BAD; NOTHING: the BOARD; UNLIKE");
        SeaCells x = new SeaCells();
        x.board(0, 0, 2, 1);
        x.board(1, 1, 2, 1);
        x.nest(2, 0, 0, 0, 1, 1);
        x.board(3, 3, 2, 1);
        for (int b = 0; b < 6; b++) {
            int k = b;
            if (b == 1 || b == 3) Due.is(x.tide(b, 0, 0), 1);
            else Due.finds(x, () -> x.tide(k, 0, 0), b > 3 ? NOTHING : UNLIKE);
        }
    }

    private static void stepsAsManyAsCanBe() {
        Due.says("step: n STEPS (0 .. 200) of a BOARD: how many were done (fewer, if one can't be)");
        SeaCells x = Seas.two(0, 0);
        int[] answers = {x.step(0, -1), x.step(0, 0), x.step(0, 1), x.step(0, 200), x.step(0, 201)};
        int[] due = {BAD, 0, 1, 200, BAD};
        for (int k = 0; k < 5; k++) Due.is(answers[k], due[k]);
        Due.told(x, x.told(0, 3), 201);
        x.gate(0, 0, true);
        x.river(0, 0, 1000);
        Due.is(x.step(0, 200), 100);
        Due.is(x.step(0, 200), 0);
        Due.told(x, x.told(0, 3), 301);
        Due.told(x, x.told(0, 5), 100000);
    }

    private static void toldOfABoard() {
        Due.says("told: 0 its KIND, 1 W, 2 H, 3 STEPS, 4 all WATER, 5 RAIN, 6 LENT, 7 to 9 all of STUFFS 0 to 2, 10 CELLS"
                + " without WATER");
        SeaCells x = new SeaCells();
        x.board(0, 3, 8, 6);
        for (int c = 0; c < 48; c++) x.water(0, c, c == 30 ? 0 : 100000);
        for (int c = 0; c < 48; c++) x.spill(0, c, 1, 100000);
        x.spill(0, 47, 2, 1);
        int[] due = {3, 8, 6, 0, 4700000, 0, 0, 0, 4800000, 1, 1};
        for (int what = 0; what <= 10; what++) Due.told(x, x.told(0, what), due[what]);
        Due.is(x.told(0, 11), BAD);
        Due.is(x.told(0, -1), BAD);
    }

    private static void markOfEachKind() {
        Due.says("mark: a TIDAL one (ICED, too) the LEVEL to which THE RIM would be led now (NONE: no TIDE), a NEST the sum"
                + " of all RESTS, an ICED one how many of its CELLS have WATER");
        SeaCells x = new SeaCells();
        x.board(0, 0, 2, 1);
        x.board(1, 1, 2, 1);
        x.nest(2, 0, 0, 0, 2, 1);
        x.board(3, 3, 2, 1);
        int[][] due = {{BAD, -3, -3, -3}, {BAD, NONE, -3, -3}, {BAD, -3, 1, -3}, {BAD, NONE, -3, 1}};
        for (int b = 0; b < 4; b++) {
            for (int kind = 0; kind < 4; kind++) Due.is(x.mark(b, kind), due[b][kind]);
        }
        Due.is(x.mark(1, 4), BAD);
        Due.is(x.findings(UNLIKE), 8);
        Due.rowOf(x, 0, 100000, -100000);
        x.tide(1, 0, 500);
        x.tide(3, 0, -500);
        Due.told(x, x.mark(1, 1), 100500);
        Due.told(x, x.mark(3, 1), 99500);
        x.step(1, 1);
        x.step(3, 1);
        Due.told(x, x.mark(1, 1), -99500);
        Due.told(x, x.mark(3, 1), -100500);
        Due.told(x, x.mark(3, 3), 1);
        x.water(3, 0, 0);
        Due.told(x, x.mark(3, 3), 0);
        // RESTS of more than one CELL beneath, below 0, too
        x.water(2, 0, 3);
        x.water(2, 2, 2);
        x.up(2);
        Due.told(x, x.mark(2, 2), 5);
    }

    private static void keepToAPlace() {
        Due.says("keep: A BOARD as it is, WATER, FLOWS, gates, RIVERS, TIDE, STUFFS, WIND, all, comes to another place: how"
                + " many CELLS");
        for (int steps : new int[] {0, 1, 7}) {
            for (int kind : new int[] {1, 3}) {
                SeaCells x = new SeaCells();
                x.board(0, kind, 4, 3);
                for (int c = 0; c < 12; c++) x.water(0, c, 40 * c % 77);
                x.bottom(0, 5, 20);
                x.spill(0, 6, 0, 500);
                x.spill(0, 7, 1, 600);
                x.spill(0, 8, 2, 700);
                x.gate(0, 2, true);
                x.law(0, 7, 3);
                x.wind(0, 9, -8);
                x.river(0, 3, 21);
                x.post(0, 2);
                Due.rowOf(x, 3, 40, 90, 10);
                x.tide(0, 3, 5);
                x.step(0, 4);
                Due.is(x.keep(0, 5), 12);
                x.step(0, steps);
                x.step(5, steps);
                for (int b : new int[] {0, 5}) x.wind(b, steps, 1);
                Due.told(x, x.mark(0, 1), Due.tell(x, x.mark(5, 1)));
                long left = boardShown(x, 0);
                Due.is(boardShown(x, 5), left);
            }
        }
    }

    private static void keepNests() {
        Due.says("keep: a NEST comes as a BOARD of KIND 0; STATE: it lies in that place's BOARD, at whatever depth");
        SeaCells x = new SeaCells();
        x.board(0, 0, 2, 1);
        x.nest(1, 0, 0, 0, 1, 1);
        x.nest(2, 1, 0, 0, 1, 1);
        x.nest(3, 2, 0, 0, 1, 1);
        for (int b = 1; b < 4; b++) {
            for (int to = 0; to < b; to++) Due.is(x.keep(b, to), STATE);
        }
        Due.is(x.count(2), 4);
        x.water(3, 0, 7);
        x.up(3);
        Due.told(x, x.mark(3, 2), 3);
        Due.is(x.keep(3, 4), 4);
        Due.told(x, x.told(4, 0), 0);
        Due.told(x, x.cell(4, 0, 1), 7);
        Due.finds(x, () -> x.mark(4, 2), UNLIKE);
        Due.finds(x, () -> x.up(4), UNLIKE);
        // it lies in none: what the first lay in may go
        Due.is(x.keep(4, 2), 4);
        Due.is(x.count(2), 4);
        Due.finds(x, () -> x.told(3, 0), NOTHING);
        // a place of one that lies in it is free
        Due.is(x.keep(0, 1), 2);
        Due.told(x, x.told(1, 0), 0);
    }

    private static void keepNoFloaters() {
        Due.says("keep: (what was there is missing first, as by drop(); .. no BOATS, GAUGES, NESTS come)");
        SeaCells x = new SeaCells();
        x.board(0, 0, 4, 3);
        x.board(1, 0, 4, 3);
        x.nest(2, 0, 0, 0, 1, 1);
        x.nest(3, 1, 0, 0, 1, 1);
        for (int b = 0; b < 4; b++) {
            x.boat(b, b, 1, 1);
            x.gauge(b, b, 1);
        }
        Due.is(x.keep(0, 1), 12);
        Due.is(x.count(2), 3);
        Due.is(x.count(3), 2);
        Due.is(x.count(4), 2);
        int[] boats = {1, NONE, 1, NONE};
        for (int k = 0; k < 4; k++) Due.is(x.where(k), boats[k]);
        Due.is(x.mirror(1), 1);
        Due.is(x.mirror(0), STATE);
        // what moves on the one moves nothing on the other
        x.water(1, 1, 500);
        x.step(1, 1);
        Due.is(x.where(0), 1);
        Due.told(x, x.told(0, 3), 0);
    }

    private static void mirrorOfAllWidths() {
        Due.says("mirror: x becomes W - 1 less x (FLOWS and gates of right SIDES likewise, turned; WIND x, RIVERS, BOATS,"
                + " GAUGES, too)");
        for (int w = 2; w <= 8; w++) {
            SeaCells x = new SeaCells();
            x.board(0, 0, w, 2);
            for (int c = 0; c < 2 * w; c++) x.water(0, c, 100 + 37 * c % 50);
            x.bottom(0, w - 1, 9);
            x.spill(0, 1, 2, 50);
            x.gate(0, 0, true);
            x.gate(0, 1, true);
            x.wind(0, 7, 3);
            x.river(0, w, 9);
            x.step(0, 2);
            x.boat(0, 0, w + 1, 1000);
            x.gauge(0, 0, 0);
            long before = x.digest();
            Due.is(x.mirror(0), 1);
            Due.is(x.digest() == before ? 1 : 0, 0);
            Due.told(x, x.cell(0, 0, 0), 9);
            Due.is(x.where(0), 2 * w - 2);
            Due.is(x.gate(0, 2 * (w - 2), true), 1);
            Due.is(x.gate(0, 2 * (w - 1) + 1, true), 1);
            Due.is(x.gate(0, 1, false), 0);
            // what it does in the mirror, it would have done: twice mirrored is as it was
            Due.is(x.mirror(0), 1);
            Due.is(x.digest(), before);
            x.keep(0, 1);
            x.mirror(1);
            x.step(0, 3);
            x.step(1, 3);
            x.mirror(1);
            for (int c = 0; c < 2 * w; c++) {
                for (int what = 0; what < 6; what++) Due.told(x, x.cell(1, c, what), Due.tell(x, x.cell(0, c, what)));
            }
            for (int side : new int[] {0, 1, 2 * w - 4, 2 * w - 1, 2 * w}) {
                Due.told(x, x.flow(1, side), Due.tell(x, x.flow(0, side)));
            }
        }
    }

    private static void mirrorOfEach() {
        Due.says("mirror: x becomes W - 1 less x (.. WIND x, RIVERS, BOATS, GAUGES, too)");
        for (int w = 2; w <= 8; w++) {
            SeaCells x = new SeaCells();
            x.board(0, 0, w, 2);
            for (int c = 0; c < 2 * w; c++) {
                x.bottom(0, c, -c);
                x.water(0, c, 1000 + c);
                for (int stuff = 0; stuff < 3; stuff++) x.spill(0, c, stuff, 100 * stuff + c);
            }
            x.boat(0, 0, 0, 1000);
            x.boat(1, 0, 2 * w - 1, 1000);
            x.gauge(0, 0, w);
            Due.is(x.mirror(0), 1);
            for (int c = 0; c < 2 * w; c++) {
                int was = c < w ? w - 1 - c : 3 * w - 1 - c;
                Due.told(x, x.cell(0, c, 0), -was);
                Due.told(x, x.cell(0, c, 1), 1000 + was);
                for (int stuff = 0; stuff < 3; stuff++) Due.told(x, x.cell(0, c, 3 + stuff), 100 * stuff + was);
            }
            Due.is(x.where(0), w - 1);
            Due.is(x.where(1), w);
            // WIND x and RIVERS show in the next STEP
            SeaCells y = new SeaCells();
            y.board(0, 0, w, 2);
            y.law(0, 4, 1000);
            y.wind(0, 7, 3);
            y.river(0, 0, 1);
            y.river(0, w, 20);
            y.river(0, 2 * w - 1, 300);
            y.river(0, 0, 4);
            Due.is(y.mirror(0), 1);
            y.step(0, 1);
            for (int c = 0; c < 2 * w; c++) {
                int due = (c == w - 1 ? 5 : 0) + (c == 2 * w - 1 ? 20 : 0) + (c == w ? 300 : 0);
                Due.told(y, y.cell(0, c, 1), due);
            }
            for (int c = 0; c < 2 * w; c++) y.water(0, c, 500);
            y.step(0, 1);
            Due.told(y, y.flow(0, 0), -7);
            Due.told(y, y.flow(0, 1), 3);
        }
    }

    private static void mirrorOfFlows() {
        Due.says("mirror: (FLOWS and gates of right SIDES likewise, turned ..)");
        for (int w = 2; w <= 8; w++) {
            SeaCells x = new SeaCells();
            x.board(0, 0, w, 2);
            for (int c = 0; c < 2 * w; c++) x.water(0, c, 900 + 13 * c * c % 97);
            x.step(0, 1);
            long[] flows = new long[4 * w];
            for (int side = 0; side < 4 * w; side++) {
                if (isSide(side, w)) flows[side] = Due.tell(x, x.flow(0, side));
            }
            // one gate each time, so that it shows where it comes to
            int shut = w % 2 == 0 ? 2 * w : 1;
            x.gate(0, shut, true);
            Due.is(x.mirror(0), 1);
            for (int side = 0; side < 4 * w; side++) {
                if (!isSide(side, w)) continue;
                int was = mirrored(side, w);
                Due.told(x, x.flow(0, side), side % 2 == 0 ? -flows[was] : flows[was]);
                Due.is(x.gate(0, side, false), was == shut ? 1 : 0);
            }
        }
    }

    /** Of 2 lines. */
    private static boolean isSide(int side, int w) {
        return side % 2 == 0 ? side / 2 % w < w - 1 : side < 2 * w;
    }

    private static int mirrored(int side, int w) {
        int at = side / 2 % w;
        int line = side / 2 / w;
        int there = side % 2 == 0 ? w - 2 - at : w - 1 - at;
        return 2 * (line * w + there) + side % 2;
    }

    private static void mirrorLeavesTheRim() {
        Due.says("mirror: a TIDAL one keeps its RIM at x 0");
        SeaCells x = new SeaCells();
        x.board(0, 1, 3, 2);
        Due.rowOf(x, 0, 70, 20);
        x.tide(0, 0, 0);
        for (int side : new int[] {0, 2, 6, 8}) x.gate(0, side, true);
        x.gauge(0, 0, 0);
        x.step(0, 1);
        Due.is(x.mirror(0), 1);
        Due.told(x, x.cell(0, 2, 1), 70);
        Due.told(x, x.told(0, 6), 140);
        x.step(0, 1);
        int[] due = {20, 0, 70, 20, 0, 70};
        for (int c = 0; c < 6; c++) Due.told(x, x.cell(0, c, 1), due[c]);
        // the GAUGE went along with its CELL
        Due.told(x, x.reading(0, 0), 70);
        Due.told(x, x.reading(0, 1), 70);
    }

    private static void mirrorRefused() {
        Due.says("mirror: BAD; NOTHING; UNLIKE: a NEST; STATE: a NEST lies in it. (STATE behind these.)");
        SeaCells x = new SeaCells();
        x.board(0, 0, 4, 3);
        x.nest(1, 0, 0, 0, 1, 1);
        x.nest(2, 1, 0, 0, 1, 1);
        Due.is(x.mirror(-1), BAD);
        Due.is(x.mirror(6), BAD);
        Due.finds(x, () -> x.mirror(3), NOTHING);
        // a NEST in which one lies is UNLIKE
        Due.finds(x, () -> x.mirror(1), UNLIKE);
        Due.finds(x, () -> x.mirror(2), UNLIKE);
        Due.is(x.mirror(0), STATE);
    }

    private static void asks(boolean tells, ToIntFunction<SeaCells> call) {
        SeaCells x = Seas.rich();
        Due.rowOf(x, 5, 654321 % 100000);
        Due.told(x, x.mean(5), 54321);
        call.applyAsInt(x);
        Due.is(x.asked() == 54321 ? 0 : 1, tells ? 1 : 0);
    }

    private static void askedStaysBehindOthers() {
        Due.says("asked: What the latest lay(), .. fit() that was not refused (nor NONE) told");
        asks(false, x -> x.row(0, 1));
        asks(false, x -> x.tear(0));
        asks(false, x -> x.copy(0, 0, 1, 0, 2));
        asks(false, x -> x.text(0, 1));
        asks(false, x -> x.put(0, 0, 1));
        asks(false, x -> x.burn(0));
        asks(false, x -> x.fault(1));
        asks(false, x -> x.board(0, 0, 2, 1));
        asks(false, x -> x.drop(0));
        asks(false, x -> x.water(0, 0, 1));
        asks(false, x -> x.spill(0, 6, 1, 1));
        asks(false, x -> x.gate(0, 2, true));
        asks(false, x -> x.law(0, 4, 10));
        asks(false, x -> x.wind(0, 1, 1));
        asks(false, x -> x.river(1, 0, 1));
        asks(false, x -> x.tide(1, 1, 1));
        asks(false, x -> x.step(0, 5));
        asks(false, x -> x.keep(0, 5));
        asks(false, x -> x.mirror(1));
        asks(false, x -> x.boat(0, 0, 3, 1));
        asks(false, x -> x.where(0));
        asks(false, x -> x.gauge(0, 0, 3));
        asks(false, x -> x.lose(0, 0));
        asks(false, x -> x.tone(0, 8));
        asks(false, x -> x.theTone(0));
        asks(false, x -> x.nest(5, 0, 0, 0, 1, 1));
        asks(false, x -> x.ends(0, 0, 1, 5));
        asks(false, x -> x.play(0, 0));
        asks(false, x -> x.world(0, 1));
        asks(false, x -> x.forget());
        asks(false, x -> x.alarm(0, 0, 0));
        asks(false, x -> x.post(1, 0));
        asks(false, x -> x.gates(0, 0, 0));
        asks(false, x -> x.count(0));
        asks(false, x -> x.findings(1));
        asks(false, x -> (int) x.digest());
    }

    private static void askedOfEach() {
        Due.says("asked: What the latest lay(), mean(), bottom(), cell(), flow(), told(), mark(), reading(), part(), up(),"
                + " down(), fit() that was not refused (nor NONE) told; 0 before");
        Due.is(new SeaCells().asked(), 0);
        asks(true, x -> x.lay(0, 0, 1));
        asks(true, x -> x.mean(0));
        asks(true, x -> x.bottom(0, 0, 1));
        asks(true, x -> x.cell(0, 0, 1));
        asks(true, x -> x.flow(0, 0));
        asks(true, x -> x.told(0, 4));
        asks(true, x -> x.mark(1, 1));
        asks(true, x -> x.reading(0, 0));
        asks(true, x -> x.part(false));
        asks(true, x -> x.up(2));
        asks(true, x -> x.down(2));
        asks(true, x -> x.fit(0, 0, 1));
        // refused, or NONE
        asks(false, x -> x.lay(0, 9, 1));
        asks(false, x -> x.lay(0, 0, 100001));
        asks(false, x -> x.mean(2));
        asks(false, x -> x.bottom(0, 12, 1));
        asks(false, x -> x.cell(0, 0, 6));
        asks(false, x -> x.flow(0, 6));
        asks(false, x -> x.told(5, 4));
        asks(false, x -> x.mark(0, 1));
        asks(false, x -> x.mark(4, 1));
        asks(false, x -> x.reading(0, 2));
        asks(false, x -> x.reading(0, 40));
        asks(false, x -> x.up(0));
        asks(false, x -> x.down(5));
        asks(false, x -> x.fit(0, 0, 3));
        asks(false, x -> {
            for (int side : new int[] {0, 1, 3, 4}) x.gate(4, side, true);
            x.water(4, 0, 100000);
            x.river(4, 0, 1);
            return x.fit(4, 0, 1);
        });
    }

    private static void upperAndLower() {
        Due.says("upper: The upper number of the fraction that was told last; 0 before. lower: 1 before");
        SeaCells x = Seas.two(100, 0);
        Due.is(x.upper(), 0);
        Due.is(x.lower(), 1);
        Due.write(x, 0, "S1");
        x.world(0, 6);
        Due.write(x, 0, "");
        x.world(0, 9);
        Due.is(x.alarm(0, 1, 45), 1);
        Due.is(x.upper(), 2);
        Due.is(x.lower(), 5);
        // what is refused tells none
        x.alarm(0, 2, 45);
        x.gates(0, 1, 101001);
        x.alarm(1, 0, 46);
        Due.is(x.upper(), 2);
        Due.is(x.lower(), 5);
        // gates tells one as alarm does
        Due.is(x.gates(0, 1, 46), 0);
        Due.is(x.upper(), 0);
        Due.is(x.lower(), 1);
    }

    private static void counts() {
        Due.says("count: 0 ROWS, 1 TEXTS, 2 BOARDS that are there, 3 BOATS, 4 GAUGES, 5 WORLDS. BAD");
        SeaCells x = new SeaCells();
        int[] answers = {x.count(-1), x.count(6)};
        for (int answer : answers) Due.is(answer, BAD);
        for (int k = 0; k < 8; k++) {
            if (k < 6) {
                x.row(k, 0);
                x.text(k, 0);
                x.board(k, 0, 2, 1);
            }
            x.boat(k, 0, 0, 1);
            x.gauge(k, 0, 0);
            x.world(0, 0);
            int[] due = {Math.min(6, k + 1), Math.min(6, k + 1), Math.min(6, k + 1), k + 1, k + 1, k + 1};
            for (int what = 0; what < 6; what++) Due.is(x.count(what), due[what]);
        }
        // what is there twice over is there once
        x.row(0, 3);
        x.text(0, 3);
        x.board(1, 0, 2, 1);
        x.boat(0, 0, 1, 1);
        x.gauge(0, 0, 1);
        int[] full = {6, 6, 6, 8, 8, 8};
        for (int what = 0; what < 6; what++) Due.is(x.count(what), full[what]);
        x.tear(0);
        x.burn(0);
        x.drop(0);
        x.forget();
        int[] less = {5, 5, 5, 0, 0, 0};
        for (int what = 0; what < 6; what++) Due.is(x.count(what), less[what]);
    }

    private static void findingsEach() {
        Due.says("FINDINGS: 1 NOTHING, 2 BEYOND, 3 UNLIKE, 4 NOUGHT, 5 SIZE; findings: How often a FINDING (1 .. 5) was"
                + " answered. BAD");
        SeaCells x = new SeaCells();
        x.board(0, 0, 2, 1);
        x.row(0, 0);
        for (int turn = 1; turn <= 3; turn++) {
            int[] answers = {x.drop(1), x.lay(0, 0, 1), x.up(0), x.mean(0), x.row(1, -1)};
            for (int f = 1; f <= 5; f++) {
                Due.is(answers[f - 1], SeaCells.FINDING);
                Due.is(x.findings(f), turn);
            }
        }
        for (int f : new int[] {-1, 0, 6}) Due.is(x.findings(f), BAD);
    }

    private static void findingIsTheLatest() {
        Due.says("finding: The latest FINDING (0 before any)");
        SeaCells x = new SeaCells();
        x.board(0, 0, 2, 1);
        x.row(0, 0);
        Due.is(x.finding(), 0);
        x.drop(1);
        Due.is(x.finding(), NOTHING);
        x.lay(0, 0, 1);
        Due.is(x.finding(), BEYOND);
        x.up(0);
        Due.is(x.finding(), UNLIKE);
        x.mean(0);
        Due.is(x.finding(), NOUGHT);
        x.row(1, -1);
        Due.is(x.finding(), SIZE);
        // BAD, FULL, STATE, NONE and what is done are none
        x.row(6, 0);
        x.where(0);
        x.lose(0, 0);
        for (int k = 0; k < 5; k++) x.river(0, 0, 0);
        x.step(0, 1);
        x.findings(0);
        Due.is(x.finding(), SIZE);
        x.tear(5);
        Due.is(x.finding(), NOTHING);
    }

    private static long fold(long h, long... values) {
        long all = h;
        for (long v : values) all = 31 * all + v;
        return all;
    }

    private static void digestOfMissing() {
        Due.says("digest: h = 17; then h = 31 h + v for each v: (-1 once: missing)");
        long h = 17;
        for (int k = 0; k < 6 + 8 + 8 + 6 + 6; k++) h = fold(h, -1);
        Due.is(new SeaCells().digest(), h);
        // what is of size 0 is there
        SeaCells x = new SeaCells();
        x.row(5, 0);
        x.text(5, 0);
        h = 17;
        for (int k = 0; k < 6 + 8 + 8 + 5; k++) h = fold(h, -1);
        h = fold(h, 0);
        for (int k = 0; k < 5; k++) h = fold(h, -1);
        Due.is(x.digest(), fold(h, 0));
    }

    private static void digestByHand() {
        Due.says("digest: h = 17; then h = 31 h + v for each v: of each BOARD .., of each SIDE (by numbers; none where there"
                + " is none) FLOW, and 1 or 0 (shut); of each BOAT ..; of each GAUGE ..; of each ROW and TEXT");
        SeaCells x = new SeaCells();
        x.board(1, 1, 2, 2);
        x.board(4, 3, 3, 1);
        for (int c = 0; c < 4; c++) x.water(1, c, 100 + 50 * c);
        for (int c = 0; c < 3; c++) x.water(4, c, c == 1 ? 0 : 70);
        for (int stuff = 0; stuff < 3; stuff++) x.spill(1, 3, stuff, 1000 * stuff + 10);
        x.bottom(1, 0, -7);
        x.bottom(4, 1, 8);
        x.river(1, 1, 6);
        x.gate(4, 0, true);
        x.gate(1, 1, true);
        Due.rowOf(x, 0, 90, NONE, 80);
        x.tide(1, 0, 3);
        x.boat(3, 1, 1, 1000);
        x.boat(6, 4, 2, 9);
        x.gauge(0, 1, 0);
        x.step(1, 3);
        x.lose(0, 1);
        x.gauge(5, 4, 1);
        Due.write(x, 2, "S1 ");
        long h = fold(17, -1);
        h = boardBy(x, h, 1, new int[] {0, 1, 3, 4}, 1);
        h = fold(h, -1, -1);
        h = boardBy(x, h, 4, new int[] {0, 2}, 0);
        h = fold(h, -1, -1, -1, -1, 1, x.where(3), 1000, -1, -1, 4, x.where(6), 9, -1);
        // the RIM is led to 93, -6 and 83; of its lower CELL the BOTTOM is -7
        h = fold(h, 1, 0, 3, 93, NONE, 83, -1, -1, -1, -1, 4, 1, 0, -1, -1);
        h = fold(h, 3, 90, NONE, 80, -1, -1, -1, -1, -1);
        h = fold(h, -1, -1, 3, 'S', '1', ' ', -1, -1, -1);
        Due.is(x.digest(), h);
    }

    private static long boardBy(SeaCells x, long before, int b, int[] sides, int shut) {
        long h = before;
        for (int what = 0; what <= 10; what++) h = fold(h, Due.tell(x, x.told(b, what)));
        int cells = (int) (Due.tell(x, x.told(b, 1)) * Due.tell(x, x.told(b, 2)));
        for (int c = 0; c < cells; c++) {
            for (int what : new int[] {0, 1, 3, 4, 5}) h = fold(h, Due.tell(x, x.cell(b, c, what)));
        }
        for (int side : sides) h = fold(h, Due.tell(x, x.flow(b, side)), side == shut ? 1 : 0);
        return h;
    }

    private static void digestOf(int least, ToIntFunction<SeaCells> call) {
        SeaCells x = Seas.rich();
        long before = x.digest();
        Due.is(call.applyAsInt(x) >= least ? 1 : 0, 1);
        Due.is(x.digest() == before ? 1 : 0, 0);
    }

    private static void digestIsOfAll() {
        Due.says("digest: of each BOARD told() 0 to 10, of each CELL BOTTOM, WATER, STUFFS 0 to 2, of each SIDE FLOW, and 1"
                + " or 0 (shut); of each BOAT its BOARD, CELL, DRAUGHT; of each GAUGE its BOARD, CELL, READINGS; of each ROW"
                + " and TEXT its size and places");
        digestOf(1, x -> x.lay(0, 2, 51));
        digestOf(1, x -> x.row(2, 1));
        digestOf(1, x -> x.tear(2));
        digestOf(1000, x -> x.put(0, 5, '4'));
        digestOf(1, x -> x.text(2, 1));
        digestOf(1, x -> x.burn(2));
        digestOf(1, x -> x.bottom(0, 11, 1));
        digestOf(0, x -> x.water(0, 11, 1));
        digestOf(0, x -> x.spill(0, 11, 2, 1));
        digestOf(0, x -> x.gate(0, 9, true));
        digestOf(1, x -> x.step(4, 1));
        digestOf(1, x -> x.drop(4));
        digestOf(1, x -> x.boat(0, 0, x.where(0), 3));
        digestOf(1, x -> x.boat(0, 0, 11 - x.where(0), 2));
        digestOf(0, x -> x.boat(7, 0, 0, 2));
        digestOf(1, x -> x.gauge(2, 0, 1));
        digestOf(1, x -> x.lose(0, 0));
        digestOf(1, x -> x.gauge(0, 0, 6));
        digestOf(4, x -> x.keep(4, 5));
        // WIND, laws, RIVERS, TIDE, WORLDS are not in it
        SeaCells y = Seas.rich();
        long before = y.digest();
        y.wind(0, 9, 9);
        y.law(0, 1, 9);
        y.river(4, 0, 9);
        y.tide(1, 4, 9);
        y.post(1, 0);
        y.forget();
        Due.is(y.digest(), before);
    }

    private static void digestLeavesAsked() {
        Due.says("digest: (of a call that tells by asked(): what it tells, not the 1 that it answers; asked() stays)");
        SeaCells x = Seas.rich();
        long first = x.digest();
        x.cell(0, 0, 1);
        int asked = x.asked();
        Due.is(x.digest(), first);
        Due.is(x.asked(), asked);
        Due.is(x.digest(), first);
    }
}
