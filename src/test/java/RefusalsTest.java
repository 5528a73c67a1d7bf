import java.util.function.ToIntFunction;

/**
 * Each call with each reason for which the document lets it be refused, at both sides of each limit, and where two
 * reasons fit, which comes first. What is refused changes nothing: Seas.shown() is the same with and without it.
 */
public final class RefusalsTest {
    private static final int BAD = -1, FULL = -2, STATE = -4, NONE = -9;
    private static final int NOTHING = 1, BEYOND = 2, UNLIKE = 3, NOUGHT = 4, SIZE = 5;
    private static final int LEAST = Integer.MIN_VALUE, MOST = Integer.MAX_VALUE;
    private static final int[] NO_SIX = {-1, 6, LEAST, MOST}, NO_EIGHT = {-1, 8, LEAST, MOST};
    private static final int[] OVER_48 = {49, MOST}, OVER_40 = {41, MOST}, BELOW_0 = {-1, LEAST};
    private static final long SHOWN = Seas.shown(Seas.rich());

    public static void main(String[] args) {
        rows();
        copies();
        texts();
        boards();
        cells();
        sides();
        laws();
        tides();
        steps();
        kept();
        boats();
        gauges();
        tones();
        nests();
        nestsLieWithin();
        fits();
        plays();
        worlds();
        alarms();
        posts();
        told();
        answersOfNone();
        Due.end();
    }

    /** Nothing but what is found is another one behind a call that answers so. */
    private static void refuses(int answer, int finding, ToIntFunction<SeaCells> call) {
        SeaCells x = Seas.rich();
        x.tear(5);
        x.tear(5);
        int before = finding == 0 ? 0 : x.findings(finding);
        Due.is(call.applyAsInt(x), answer);
        Due.is(x.finding(), finding == 0 ? NOTHING : finding);
        int all = 0;
        for (int f = 1; f <= 5; f++) all += x.findings(f);
        Due.is(all, finding == 0 ? 2 : 3);
        if (finding != 0) Due.is(x.findings(finding), before + 1);
        Due.is(Seas.shown(x), SHOWN);
    }

    private static void bad(ToIntFunction<SeaCells> call) {
        refuses(BAD, 0, call);
    }

    private static void finds(int finding, ToIntFunction<SeaCells> call) {
        refuses(SeaCells.FINDING, finding, call);
    }

    private static void rows() {
        Due.says("row: BAD: also n above 48; SIZE");
        for (int r : NO_SIX) bad(x -> x.row(r, 3));
        for (int n : OVER_48) bad(x -> x.row(0, n));
        for (int n : BELOW_0) finds(SIZE, x -> x.row(0, n));
        finds(SIZE, x -> x.row(4, -1));
        bad(x -> x.row(6, -1));
        Due.says("lay: Place i of a ROW is v (-100000 .. 100000); BAD; NOTHING; BEYOND");
        for (int r : NO_SIX) bad(x -> x.lay(r, 0, 1));
        for (int v : new int[] {-100001, 100001, LEAST, MOST}) bad(x -> x.lay(0, 0, v));
        finds(NOTHING, x -> x.lay(4, 0, 1));
        for (int i : new int[] {-1, 3, 47, 48, LEAST, MOST}) finds(BEYOND, x -> x.lay(0, i, 1));
        finds(BEYOND, x -> x.lay(2, 0, 1));
        finds(NOTHING, x -> x.lay(4, -1, 1));
        bad(x -> x.lay(4, -1, 100001));
        Due.says("tear: A ROW is missing: 1. BAD; NOTHING");
        for (int r : NO_SIX) bad(x -> x.tear(r));
        finds(NOTHING, x -> x.tear(4));
        Due.says("mean: BAD; NOTHING; NOUGHT");
        for (int r : NO_SIX) bad(x -> x.mean(r));
        finds(NOTHING, x -> x.mean(4));
        finds(NOUGHT, x -> x.mean(2));
        finds(NOUGHT, x -> x.mean(3));
    }

    private static void copies() {
        Due.says("copy: BAD; SIZE: n below 0; NOTHING: either; BEYOND: not so many there. (In this order.)");
        for (int r : NO_SIX) {
            bad(x -> x.copy(r, 0, 0, 0, 1));
            bad(x -> x.copy(0, 0, r, 0, 1));
        }
        for (int n : BELOW_0) finds(SIZE, x -> x.copy(0, 0, 1, 0, n));
        finds(NOTHING, x -> x.copy(4, 0, 0, 0, 1));
        finds(NOTHING, x -> x.copy(0, 0, 4, 0, 1));
        finds(NOTHING, x -> x.copy(4, 0, 5, 0, 0));
        for (int i : new int[] {-1, 1, 3, LEAST, MOST}) {
            finds(BEYOND, x -> x.copy(0, i, 1, 0, 3));
            finds(BEYOND, x -> x.copy(0, 0, 1, i, 3));
        }
        finds(BEYOND, x -> x.copy(0, 0, 1, 0, 4));
        finds(BEYOND, x -> x.copy(0, 0, 0, 0, MOST));
        finds(BEYOND, x -> x.copy(0, 3, 1, 3, MOST));
        finds(BEYOND, x -> x.copy(0, 4, 1, 0, 0));
        finds(BEYOND, x -> x.copy(0, 0, 1, 4, 0));
        finds(BEYOND, x -> x.copy(0, 0, 2, 0, 1));
        bad(x -> x.copy(6, 0, 0, 0, -1));
        finds(SIZE, x -> x.copy(4, 9, 5, 9, -1));
        finds(NOTHING, x -> x.copy(4, 9, 0, 9, 1));
    }

    private static void texts() {
        Due.says("text: A TEXT is there with n blanks: n. BAD: also n above 40; SIZE");
        for (int t : NO_SIX) bad(x -> x.text(t, 3));
        for (int n : OVER_40) bad(x -> x.text(0, n));
        for (int n : BELOW_0) finds(SIZE, x -> x.text(0, n));
        finds(SIZE, x -> x.text(4, -1));
        bad(x -> x.text(6, -1));
        Due.says("put: BAD; NOTHING; BEYOND");
        for (int t : NO_SIX) bad(x -> x.put(t, 0, 1));
        finds(NOTHING, x -> x.put(3, 0, 1));
        for (int i : new int[] {-1, 6, 39, 40, LEAST, MOST}) finds(BEYOND, x -> x.put(0, i, 1));
        finds(BEYOND, x -> x.put(2, 0, 1));
        finds(NOTHING, x -> x.put(3, -1, 1));
        Due.says("burn: A TEXT is missing: 1. BAD; NOTHING");
        for (int t : NO_SIX) bad(x -> x.burn(t));
        finds(NOTHING, x -> x.burn(3));
        Due.says("fault: BAD; NOTHING");
        for (int t : NO_SIX) bad(x -> x.fault(t));
        finds(NOTHING, x -> x.fault(3));
    }

    private static void boards() {
        Due.says("board: A BOARD of KIND 0, 1 or 3 .. BAD; (W 2 .. 8, H 1 .. 6)");
        for (int b : NO_SIX) bad(x -> x.board(b, 0, 2, 1));
        for (int kind : new int[] {-1, 2, 4, LEAST, MOST}) bad(x -> x.board(0, kind, 2, 1));
        for (int w : new int[] {-1, 0, 1, 9, LEAST, MOST}) bad(x -> x.board(0, 0, w, 1));
        for (int h : new int[] {-1, 0, 7, LEAST, MOST}) bad(x -> x.board(0, 0, 2, h));
        Due.says("drop: BAD; NOTHING");
        for (int b : NO_SIX) bad(x -> x.drop(b));
        finds(NOTHING, x -> x.drop(5));
    }

    private static void cells() {
        Due.says("bottom, water, spill, cell: BAD; NOTHING; BEYOND");
        for (int b : NO_SIX) {
            bad(x -> x.bottom(b, 0, 0));
            bad(x -> x.water(b, 0, 0));
            bad(x -> x.spill(b, 0, 0, 0));
            bad(x -> x.cell(b, 0, 0));
        }
        for (int v : new int[] {-1001, 1001, LEAST, MOST}) bad(x -> x.bottom(0, 0, v));
        for (int v : new int[] {-1, 100001, LEAST, MOST}) {
            bad(x -> x.water(0, 0, v));
            bad(x -> x.spill(0, 0, 0, v));
        }
        for (int stuff : new int[] {-1, 3, LEAST, MOST}) bad(x -> x.spill(0, 0, stuff, 0));
        for (int what : new int[] {-1, 6, LEAST, MOST}) bad(x -> x.cell(0, 0, what));
        for (int c : new int[] {-1, 12, 47, 48, LEAST, MOST}) {
            finds(BEYOND, x -> x.bottom(0, c, 0));
            finds(BEYOND, x -> x.water(0, c, 0));
            finds(BEYOND, x -> x.spill(0, c, 0, 0));
            finds(BEYOND, x -> x.cell(0, c, 0));
            finds(NOTHING, x -> x.bottom(5, c, 0));
            finds(NOTHING, x -> x.water(5, c, 0));
            finds(NOTHING, x -> x.spill(5, c, 0, 0));
            finds(NOTHING, x -> x.cell(5, c, 0));
        }
        bad(x -> x.bottom(5, -1, 1001));
        bad(x -> x.water(5, -1, -1));
        bad(x -> x.spill(5, -1, 3, 0));
        bad(x -> x.cell(5, -1, 6));
    }

    private static void sides() {
        Due.says("flow: BAD; NOTHING; BEYOND: no such SIDE. gate: BAD; NOTHING; BEYOND");
        for (int b : NO_SIX) {
            bad(x -> x.flow(b, 0));
            bad(x -> x.gate(b, 0, true));
            bad(x -> x.gate(b, -1, false));
        }
        // of 4 by 3 CELLS: behind the last of a line, above the highest line, and none
        for (int side : new int[] {6, 14, 22, 17, 19, 21, 23, 24, 25, 95, 96, -1, -2, LEAST, MOST}) {
            finds(BEYOND, x -> x.flow(0, side));
            finds(BEYOND, x -> x.gate(0, side, true));
            finds(BEYOND, x -> x.gate(0, side, false));
            finds(NOTHING, x -> x.flow(5, side));
            finds(NOTHING, x -> x.gate(5, side, true));
        }
    }

    private static void laws() {
        Due.says("PULL (1 .. 8; 4 at first), DRAG (2 .. 1000; 10 at first), WIND (x, y: -50 .. 50 each)");
        for (int b : NO_SIX) {
            bad(x -> x.law(b, 4, 10));
            bad(x -> x.wind(b, 0, 0));
            bad(x -> x.river(b, 0, 0));
        }
        for (int pull : new int[] {-1, 0, 9, LEAST, MOST}) bad(x -> x.law(0, pull, 10));
        for (int drag : new int[] {-1, 0, 1, 1001, LEAST, MOST}) bad(x -> x.law(0, 4, drag));
        for (int wind : new int[] {-51, 51, LEAST, MOST}) {
            bad(x -> x.wind(0, wind, 0));
            bad(x -> x.wind(0, 0, wind));
        }
        finds(NOTHING, x -> x.law(5, 4, 10));
        finds(NOTHING, x -> x.wind(5, 0, 0));
        bad(x -> x.law(5, 0, 10));
        bad(x -> x.wind(5, 51, 0));
        Due.says("river: BAD; FULL; NOTHING; BEYOND. (NOTHING ahead of FULL.)");
        for (int much : new int[] {-1, 1001, LEAST, MOST}) bad(x -> x.river(1, 0, much));
        finds(NOTHING, x -> x.river(5, 0, 0));
        refuses(FULL, 0, x -> x.river(0, 0, 0));
        for (int c : new int[] {-1, 6, 48, LEAST, MOST}) {
            finds(BEYOND, x -> x.river(1, c, 0));
            refuses(FULL, 0, x -> x.river(0, c + 12, 0));
            finds(NOTHING, x -> x.river(5, c, 0));
        }
        bad(x -> x.river(0, 0, 1001));
        bad(x -> x.river(5, 0, 1001));
    }

    private static void tides() {
        Due.says("tide: BAD; NOTHING: the BOARD; UNLIKE");
        for (int b : NO_SIX) bad(x -> x.tide(b, 0, 0));
        for (int r : NO_SIX) bad(x -> x.tide(1, r, 0));
        for (int more : new int[] {-501, 501, LEAST, MOST}) bad(x -> x.tide(1, 0, more));
        finds(NOTHING, x -> x.tide(5, 0, 0));
        finds(UNLIKE, x -> x.tide(0, 0, 0));
        finds(UNLIKE, x -> x.tide(2, 0, 0));
        bad(x -> x.tide(5, 6, 0));
        bad(x -> x.tide(0, 0, 501));
        Due.says("mark: BAD: also KIND 0; NOTHING; UNLIKE");
        for (int b : NO_SIX) bad(x -> x.mark(b, 1));
        for (int kind : new int[] {-1, 0, 4, LEAST, MOST}) bad(x -> x.mark(1, kind));
        bad(x -> x.mark(5, 0));
        for (int kind = 1; kind <= 3; kind++) {
            int k = kind;
            finds(NOTHING, x -> x.mark(5, k));
            finds(UNLIKE, x -> x.mark(0, k));
        }
        finds(UNLIKE, x -> x.mark(1, 2));
        finds(UNLIKE, x -> x.mark(1, 3));
        finds(UNLIKE, x -> x.mark(2, 1));
        finds(UNLIKE, x -> x.mark(2, 3));
        finds(UNLIKE, x -> x.mark(4, 2));
    }

    private static void steps() {
        Due.says("step: n STEPS (0 .. 200) of a BOARD .. BAD; NOTHING");
        for (int b : NO_SIX) bad(x -> x.step(b, 1));
        for (int n : new int[] {-1, 201, LEAST, MOST}) {
            bad(x -> x.step(0, n));
            bad(x -> x.step(5, n));
        }
        finds(NOTHING, x -> x.step(5, 0));
        Due.says("told: Of a BOARD: 0 its KIND .. 10 CELLS without WATER .. BAD; NOTHING");
        for (int b : NO_SIX) bad(x -> x.told(b, 0));
        for (int what : new int[] {-1, 11, LEAST, MOST}) {
            bad(x -> x.told(0, what));
            bad(x -> x.told(5, what));
        }
        finds(NOTHING, x -> x.told(5, 0));
    }

    private static void kept() {
        Due.says("keep: BAD: also the same; NOTHING; STATE: it lies in that place's BOARD. (STATE behind NOTHING.)");
        for (int b : NO_SIX) {
            bad(x -> x.keep(b, 0));
            bad(x -> x.keep(0, b));
        }
        bad(x -> x.keep(0, 0));
        bad(x -> x.keep(5, 5));
        finds(NOTHING, x -> x.keep(5, 0));
        refuses(STATE, 0, x -> x.keep(2, 0));
        refuses(STATE, 0, x -> x.keep(3, 2));
        refuses(STATE, 0, x -> x.keep(3, 0));
        Due.says("mirror: BAD; NOTHING; UNLIKE: a NEST; STATE: a NEST lies in it. (STATE behind these.)");
        for (int b : NO_SIX) bad(x -> x.mirror(b));
        finds(NOTHING, x -> x.mirror(5));
        finds(UNLIKE, x -> x.mirror(3));
        finds(UNLIKE, x -> x.mirror(2));
        refuses(STATE, 0, x -> x.mirror(0));
    }

    private static void boats() {
        Due.says("boat: BAD; NOTHING; BEYOND. BOATS 0 .. 7, a DRAUGHT (1 .. 1000)");
        for (int k : NO_EIGHT) {
            bad(x -> x.boat(k, 0, 0, 1));
            bad(x -> x.where(k));
        }
        for (int b : NO_SIX) bad(x -> x.boat(0, b, 0, 1));
        for (int draught : new int[] {-1, 0, 1001, LEAST, MOST}) bad(x -> x.boat(0, 0, 0, draught));
        for (int c : new int[] {-1, 12, 48, LEAST, MOST}) {
            finds(BEYOND, x -> x.boat(0, 0, c, 1));
            finds(BEYOND, x -> x.boat(7, 0, c, 1));
            finds(NOTHING, x -> x.boat(0, 5, c, 1));
            bad(x -> x.boat(0, 5, c, 0));
        }
    }

    private static void gauges() {
        Due.says("gauge: BAD; NOTHING; BEYOND. GAUGES 0 .. 7");
        for (int g : NO_EIGHT) bad(x -> x.gauge(g, 0, 0));
        for (int b : NO_SIX) bad(x -> x.gauge(0, b, 0));
        for (int c : new int[] {-1, 12, 48, LEAST, MOST}) {
            finds(BEYOND, x -> x.gauge(0, 0, c));
            finds(BEYOND, x -> x.gauge(7, 0, c));
            finds(NOTHING, x -> x.gauge(0, 5, c));
            bad(x -> x.gauge(8, 5, c));
        }
        Due.says("reading: NONE: LOST, none such, no GAUGE. BAD");
        for (int g : NO_EIGHT) {
            bad(x -> x.reading(g, 0));
            bad(x -> x.reading(g, -1));
        }
        Due.says("lose: BAD; STATE: no GAUGE, none such, LOST");
        for (int g : NO_EIGHT) {
            bad(x -> x.lose(g, 0));
            bad(x -> x.lose(g, -1));
        }
        for (int i : new int[] {-1, 6, 47, 48, LEAST, MOST}) refuses(STATE, 0, x -> x.lose(0, i));
        refuses(STATE, 0, x -> x.lose(0, 2));
        refuses(STATE, 0, x -> x.lose(2, 0));
        refuses(STATE, 0, x -> x.lose(3, 0));
    }

    private static void tones() {
        Due.says("tone: BAD: also p; STATE: no GAUGE; NOUGHT: no READINGS that are not LOST");
        for (int g : NO_EIGHT) {
            bad(x -> x.tone(g, 4));
            bad(x -> x.theTone(g));
        }
        for (int p : new int[] {LEAST, -8, -4, -1, 0, 1, 2, 3, 5, 6, 7, 9, 46, 47, 49, 50, 52, 96, MOST}) {
            bad(x -> x.tone(0, p));
        }
        bad(x -> x.tone(3, 5));
        bad(x -> x.tone(2, 52));
        refuses(STATE, 0, x -> x.tone(3, 4));
        refuses(STATE, 0, x -> x.tone(7, 48));
        refuses(STATE, 0, x -> x.theTone(3));
        finds(NOUGHT, x -> x.tone(2, 4));
        finds(NOUGHT, x -> x.theTone(2));
        Due.says("part: STATE: none was told");
        SeaCells y = new SeaCells();
        Due.is(y.part(true), STATE);
        Due.is(y.part(false), STATE);
        Due.is(y.finding(), 0);
    }

    private static void nests() {
        Due.says("nest: BAD: also n is b, more than 8 by 6 fine ones, not within b; NOTHING. STATE behind NOTHING");
        for (int k : NO_SIX) {
            bad(x -> x.nest(k, 0, 0, 0, 1, 1));
            bad(x -> x.nest(5, k, 0, 0, 1, 1));
        }
        for (int b = 0; b < 6; b++) {
            int k = b;
            bad(x -> x.nest(k, k, 0, 0, 1, 1));
        }
        for (int w : new int[] {LEAST, -1, 0, 5, 1 << 30, MOST}) bad(x -> x.nest(5, 0, 0, 0, w, 1));
        for (int h : new int[] {LEAST, -1, 0, 4, 1 << 30, MOST}) bad(x -> x.nest(5, 0, 0, 0, 1, h));
        finds(NOTHING, x -> x.nest(0, 5, 0, 0, 1, 1));
        refuses(STATE, 0, x -> x.nest(0, 2, 0, 0, 1, 1));
        refuses(STATE, 0, x -> x.nest(0, 3, 0, 0, 1, 1));
        refuses(STATE, 0, x -> x.nest(2, 3, 0, 0, 1, 1));
        bad(x -> x.nest(0, 2, 4, 0, 1, 1));
        bad(x -> x.nest(0, 5, 0, 0, 5, 1));
        Due.says("up, down: BAD; NOTHING; UNLIKE: no NEST");
        for (int n : NO_SIX) {
            bad(x -> x.up(n));
            bad(x -> x.down(n));
        }
        finds(NOTHING, x -> x.up(5));
        finds(NOTHING, x -> x.down(5));
        for (int n : new int[] {0, 1, 4}) {
            finds(UNLIKE, x -> x.up(n));
            finds(UNLIKE, x -> x.down(n));
        }
    }

    private static void nestsLieWithin() {
        Due.says("nest: BAD: also .. not within b");
        for (int x0 = -2; x0 < 6; x0++) {
            for (int w = 1; w <= 4; w++) {
                int at = x0;
                int wide = w;
                if (x0 < 0 || x0 + w > 4) bad(x -> x.nest(5, 0, at, 0, wide, 1));
                else Due.is(Seas.rich().nest(5, 0, at, 0, wide, 1), 4 * w);
            }
        }
        for (int y0 = -2; y0 < 5; y0++) {
            for (int h = 1; h <= 3; h++) {
                int at = y0;
                int high = h;
                if (y0 < 0 || y0 + h > 3) bad(x -> x.nest(5, 0, 0, at, 1, high));
                else Due.is(Seas.rich().nest(5, 0, 0, at, 1, high), 4 * h);
            }
        }
        for (int far : new int[] {LEAST, LEAST + 1, MOST - 1, MOST}) {
            bad(x -> x.nest(5, 0, far, 0, 4, 1));
            bad(x -> x.nest(5, 0, 0, far, 1, 3));
        }
    }

    private static void fits() {
        Due.says("fit, ends: BAD; NOTHING: either; BEYOND: no such CELL; NOUGHT: no place that is not NONE");
        for (int k : NO_SIX) {
            bad(x -> x.fit(k, 0, 1));
            bad(x -> x.fit(0, 0, k));
            bad(x -> x.ends(k, 0, 1, 0));
            bad(x -> x.ends(0, 0, k, 0));
        }
        for (int more : new int[] {-1, 100001, LEAST, MOST}) {
            bad(x -> x.ends(0, 0, 1, more));
            bad(x -> x.ends(5, 0, 4, more));
        }
        finds(NOTHING, x -> x.fit(5, 0, 1));
        finds(NOTHING, x -> x.fit(0, 0, 4));
        finds(NOTHING, x -> x.fit(0, 12, 4));
        finds(NOTHING, x -> x.ends(5, 12, 3, 0));
        finds(NOTHING, x -> x.ends(0, 0, 4, 0));
        for (int c : new int[] {-1, 12, 48, LEAST, MOST}) {
            finds(BEYOND, x -> x.fit(0, c, 1));
            finds(BEYOND, x -> x.fit(0, c, 3));
            finds(BEYOND, x -> x.ends(0, c, 1, 0));
            finds(BEYOND, x -> x.ends(0, c, 2, 0));
        }
        for (int r : new int[] {2, 3}) {
            finds(NOUGHT, x -> x.fit(0, 0, r));
            finds(NOUGHT, x -> x.ends(0, 0, r, 0));
        }
    }

    private static void plays() {
        Due.says("play: BAD; NOTHING: either; STATE: it has a FAULT. (STATE behind NOTHING.)");
        for (int k : NO_SIX) {
            bad(x -> x.play(k, 0));
            bad(x -> x.play(0, k));
        }
        bad(x -> x.play(5, 6));
        finds(NOTHING, x -> x.play(5, 0));
        finds(NOTHING, x -> x.play(0, 3));
        finds(NOTHING, x -> x.play(5, 1));
        refuses(STATE, 0, x -> x.play(0, 1));
    }

    private static void worlds() {
        Due.says("world: BAD; FULL; NOTHING; STATE: the TEXT has a FAULT. (STATE behind NOTHING.)");
        for (int t : NO_SIX) bad(x -> x.world(t, 0));
        for (int weight : new int[] {-1, 100, LEAST, MOST}) {
            bad(x -> x.world(0, weight));
            bad(x -> x.world(3, weight));
        }
        finds(NOTHING, x -> x.world(3, 0));
        refuses(STATE, 0, x -> x.world(1, 0));
        SeaCells x = Seas.rich();
        for (int k = 2; k < 8; k++) Due.is(x.world(0, k), k);
        int upper = x.alarm(0, 6, 60) == 1 ? (int) x.upper() : -1;
        Due.is(x.world(0, 0), FULL);
        Due.is(x.world(3, 0), FULL);
        Due.is(x.world(1, 0), FULL);
        Due.is(x.world(3, 100), BAD);
        Due.is(x.world(6, 0), BAD);
        Due.is(x.finding(), 0);
        Due.is(x.count(5), 8);
        x.alarm(0, 6, 60);
        Due.is(x.upper(), upper);
    }

    private static void alarms() {
        Due.says("alarm: BAD: also a LEVEL beyond -1000 .. 101000; NOTHING; BEYOND; NOUGHT: no weights. gates, too");
        for (int b : NO_SIX) {
            bad(x -> x.alarm(b, 0, 0));
            bad(x -> x.gates(b, 0, 0));
        }
        for (int level : new int[] {-1001, 101001, LEAST, MOST}) {
            bad(x -> x.alarm(0, 0, level));
            bad(x -> x.alarm(5, 12, level));
            bad(x -> x.gates(0, 0, level));
            bad(x -> x.gates(5, 12, level));
        }
        for (int c : new int[] {-1, 12, 48, LEAST, MOST}) {
            finds(NOTHING, x -> x.alarm(5, c, 0));
            finds(NOTHING, x -> x.gates(5, c, 0));
            finds(BEYOND, x -> x.alarm(0, c, 0));
            finds(BEYOND, x -> x.gates(0, c, 0));
        }
        SeaCells x = Seas.rich();
        x.forget();
        for (int turn = 0; turn < 3; turn++) {
            Due.finds(x, () -> x.alarm(5, 12, 0), NOTHING);
            Due.finds(x, () -> x.alarm(0, 12, 0), BEYOND);
            Due.finds(x, () -> x.alarm(0, 0, 0), NOUGHT);
            Due.finds(x, () -> x.gates(5, 12, 0), NOTHING);
            Due.finds(x, () -> x.gates(0, 12, 0), BEYOND);
            Due.finds(x, () -> x.gates(0, 0, 0), NOUGHT);
            Due.is(x.alarm(0, 0, 101001), BAD);
            Due.is(x.upper(), 7);
            Due.is(x.lower(), 10);
            // WORLDS of no weight are none
            Due.is(x.world(0, 0), turn);
        }
        x.world(0, 1);
        Due.is(x.alarm(0, 0, 0), 1);
    }

    private static void posts() {
        Due.says("post: BAD; FULL; NOTHING; BEYOND. (NOTHING, BEYOND ahead of FULL.)");
        for (int b : NO_SIX) bad(x -> x.post(b, 0));
        finds(NOTHING, x -> x.post(5, 0));
        finds(NOTHING, x -> x.post(5, -1));
        refuses(FULL, 0, x -> x.post(0, 0));
        refuses(FULL, 0, x -> x.post(0, 9));
        for (int side : new int[] {6, 17, 24, -1, 95, 96, LEAST, MOST}) finds(BEYOND, x -> x.post(0, side));
        for (int side : new int[] {4, 7, 12, -1, 95, 96, LEAST, MOST}) finds(BEYOND, x -> x.post(1, side));
    }

    private static void told() {
        Due.says("count: 0 ROWS .. 5 WORLDS. BAD. findings: How often a FINDING (1 .. 5) was answered. BAD");
        for (int what : new int[] {-1, 6, LEAST, MOST}) bad(x -> x.count(what));
        for (int f : new int[] {-1, 0, 6, LEAST, MOST}) bad(x -> x.findings(f));
    }

    private static void answersOfNone() {
        Due.says("NONE -9");
        refuses(NONE, 0, x -> x.where(2));
        refuses(NONE, 0, x -> x.where(7));
        for (int i : new int[] {-1, 2, 6, 48, LEAST, MOST}) refuses(NONE, 0, x -> x.reading(0, i));
        refuses(NONE, 0, x -> x.reading(2, 0));
        refuses(NONE, 0, x -> x.reading(3, 0));
        refuses(NONE, 0, x -> x.mark(4, 1));
        refuses(NONE, 0, x -> x.fault(0));
        refuses(NONE, 0, x -> x.fault(2));
    }
}
