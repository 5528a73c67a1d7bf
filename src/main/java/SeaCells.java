/** A sea in cells, as shared/DOC.md promises it: boards of water, their gauges, nests, fits and worlds. */
public final class SeaCells {
    public static final int BAD = -1, FULL = -2, FINDING = -3, STATE = -4, NONE = -9;

    private static final int NOTHING = 1, BEYOND = 2, UNLIKE = 3, NOUGHT = 4, SIZE = 5;
    private static final int PLAIN = 0, TIDAL = 1, NEST = 2, ICED = 3;
    private static final int BOARDS = 6, BOATS = 8, GAUGES = 8, WORLDS = 8, ROWS = 6, TEXTS = 6;
    private static final int WIDEST = 8, HIGHEST = 6, CELLS = 48, SIDES = 96, STUFFS = 3, FEW = 4;
    private static final int ROW_MOST = 48, TEXT_MOST = 40, READINGS = 48, PERIOD_MOST = 48;
    private static final int PULL_MOST = 8, STEPS_MOST = 200, TEXT_STEPS_MOST = 24, WEIGHT_MOST = 99;
    private static final int WATER_MOST = 100000, DEEP = 1000, WIND_MOST = 50, MORE_MOST = 500, RIVER_MOST = 1000;
    private static final int BLANK = 32, MINUS = 45;

    private final Shelf rows = new Shelf(ROWS, ROW_MOST);
    private final Shelf texts = new Shelf(TEXTS, TEXT_MOST);
    private final Shelf worlds = new Shelf(WORLDS, TEXT_MOST);
    private final int[] weights = new int[WORLDS];
    private final Board[] boards = new Board[BOARDS];
    /** The copy on which fits and worlds are tried: one for all, so that no call makes objects. */
    private final Board trial = new Board();
    private final Stepper stepper = new Stepper();
    private final Script script = new Script();
    private final Boat[] boats = new Boat[BOATS];
    private final Gauge[] gauges = new Gauge[GAUGES];
    private final Tone latestTone = new Tone();
    private final Tone trialTone = new Tone();
    private final int[] misfits = new int[PULL_MOST + 1];
    private final int[] findingCounts = new int[SIZE + 1];
    private int worldCount;
    private int latestAsked;
    private int latestFinding;
    private long latestUpper;
    private long latestLower = 1;

    public SeaCells() {
        for (int b = 0; b < BOARDS; b++) boards[b] = new Board();
        for (int k = 0; k < BOATS; k++) boats[k] = new Boat();
        for (int k = 0; k < GAUGES; k++) gauges[k] = new Gauge();
    }

    // ---- 1 rows, texts

    public int row(int r, int n) {
        if (!rows.isNumber(r) || n > ROW_MOST) return BAD;
        if (n < 0) return found(SIZE);
        rows.make(r, n, 0);
        return n;
    }

    public int lay(int r, int i, int v) {
        if (!rows.isNumber(r) || !within(v, -WATER_MOST, WATER_MOST)) return BAD;
        if (!rows.isThere(r)) return found(NOTHING);
        if (!rows.hasPlace(r, i)) return found(BEYOND);
        latestAsked = rows.places[r][i];
        rows.places[r][i] = v;
        return 1;
    }

    public int tear(int r) {
        return removed(rows, r);
    }

    public int copy(int r, int i, int to, int j, int n) {
        if (!rows.isNumber(r) || !rows.isNumber(to)) return BAD;
        if (n < 0) return found(SIZE);
        if (!rows.isThere(r) || !rows.isThere(to)) return found(NOTHING);
        if (!rows.hasRun(r, i, n) || !rows.hasRun(to, j, n)) return found(BEYOND);
        System.arraycopy(rows.places[r], i, rows.places[to], j, n);
        return 1;
    }

    public int mean(int r) {
        if (!rows.isNumber(r)) return BAD;
        if (!rows.isThere(r)) return found(NOTHING);
        int known = knownPlaces(r);
        if (known <= 0) return found(NOUGHT);
        int sum = 0;
        for (int i = 0; i < rows.sizes[r]; i++) {
            if (rows.places[r][i] != NONE) sum += rows.places[r][i];
        }
        latestAsked = sum / known;
        return 1;
    }

    public int text(int t, int n) {
        if (!texts.isNumber(t) || n > TEXT_MOST) return BAD;
        if (n < 0) return found(SIZE);
        texts.make(t, n, BLANK);
        return n;
    }

    public int put(int t, int i, int v) {
        if (!texts.isNumber(t)) return BAD;
        if (!texts.isThere(t)) return found(NOTHING);
        if (!texts.hasPlace(t, i)) return found(BEYOND);
        int was = texts.places[t][i];
        texts.places[t][i] = (byte) v;
        return was + 1000;
    }

    public int burn(int t) {
        return removed(texts, t);
    }

    public int fault(int t) {
        if (!texts.isNumber(t)) return BAD;
        if (!texts.isThere(t)) return found(NOTHING);
        return faultOf(t);
    }

    private int removed(Shelf shelf, int k) {
        if (!shelf.isNumber(k)) return BAD;
        if (!shelf.isThere(k)) return found(NOTHING);
        shelf.remove(k);
        return 1;
    }

    private int knownPlaces(int r) {
        int known = 0;
        for (int i = 0; i < rows.sizes[r]; i++) {
            if (rows.places[r][i] != NONE) known++;
        }
        return known;
    }

    private int faultOf(int t) {
        script.open(texts.places[t], texts.sizes[t]);
        int items = 0;
        while (items < TEXT_MOST && script.next()) items++;
        return script.fault;
    }

    // ---- 2 boards

    public int board(int b, int kind, int w, int h) {
        if (!isBoard(b) || kind != PLAIN && kind != TIDAL && kind != ICED) return BAD;
        if (!within(w, 2, WIDEST) || !within(h, 1, HIGHEST)) return BAD;
        clear(b);
        boards[b].reset(kind, w, h);
        return boards[b].cells();
    }

    public int drop(int b) {
        int refused = boardRefused(true, b);
        if (refused != 0) return refused;
        clear(b);
        return 1;
    }

    public int bottom(int b, int cell, int v) {
        int refused = cellRefused(within(v, -DEEP, DEEP), b, cell);
        if (refused != 0) return refused;
        latestAsked = boards[b].bottom[cell];
        boards[b].bottom[cell] = v;
        return 1;
    }

    public int water(int b, int cell, int v) {
        int refused = cellRefused(within(v, 0, WATER_MOST), b, cell);
        if (refused != 0) return refused;
        int was = boards[b].water[cell];
        boards[b].water[cell] = v;
        return was;
    }

    public int spill(int b, int cell, int stuff, int v) {
        int refused = cellRefused(within(stuff, 0, STUFFS - 1) && within(v, 0, WATER_MOST), b, cell);
        if (refused != 0) return refused;
        int place = stuff * CELLS + cell;
        int was = boards[b].stuff[place];
        boards[b].stuff[place] = v;
        return was;
    }

    public int cell(int b, int cell, int what) {
        int refused = cellRefused(within(what, 0, 2 + STUFFS), b, cell);
        if (refused != 0) return refused;
        Board board = boards[b];
        if (what == 0) latestAsked = board.bottom[cell];
        else if (what == 1) latestAsked = board.water[cell];
        else if (what == 2) latestAsked = board.level(cell);
        else latestAsked = board.stuff[(what - 3) * CELLS + cell];
        return 1;
    }

    public int flow(int b, int face) {
        int refused = sideRefused(b, face);
        if (refused != 0) return refused;
        latestAsked = boards[b].flow[face];
        return 1;
    }

    public int gate(int b, int face, boolean shut) {
        int refused = sideRefused(b, face);
        if (refused != 0) return refused;
        int was = boards[b].shut[face] ? 1 : 0;
        boards[b].shut[face] = shut;
        return was;
    }

    public int law(int b, int pull, int drag) {
        int refused = boardRefused(within(pull, 1, PULL_MOST) && within(drag, 2, 1000), b);
        if (refused != 0) return refused;
        boards[b].laws.pull = pull;
        boards[b].laws.drag = drag;
        return 1;
    }

    public int wind(int b, int x, int y) {
        int refused = boardRefused(within(x, -WIND_MOST, WIND_MOST) && within(y, -WIND_MOST, WIND_MOST), b);
        if (refused != 0) return refused;
        boards[b].laws.windX = x;
        boards[b].laws.windY = y;
        return 1;
    }

    public int river(int b, int cell, int much) {
        int refused = boardRefused(within(much, 0, RIVER_MOST), b);
        if (refused != 0) return refused;
        Rivers rivers = boards[b].rivers;
        if (rivers.count >= FEW) return FULL;
        if (!boards[b].hasCell(cell)) return found(BEYOND);
        rivers.cell[rivers.count] = cell;
        rivers.much[rivers.count] = much;
        rivers.count++;
        return rivers.count;
    }

    public int tide(int b, int r, int more) {
        int refused = boardRefused(rows.isNumber(r) && within(more, -MORE_MOST, MORE_MOST), b);
        if (refused != 0) return refused;
        if (!boards[b].isTidal()) return found(UNLIKE);
        boards[b].tideRow = r;
        boards[b].tideMore = more;
        return 1;
    }

    public int step(int b, int n) {
        int refused = boardRefused(within(n, 0, STEPS_MOST), b);
        if (refused != 0) return refused;
        int done = 0;
        while (done < n && stepWhole(b)) done++;
        return done;
    }

    public int told(int b, int what) {
        int refused = boardRefused(within(what, 0, 10), b);
        if (refused != 0) return refused;
        latestAsked = boards[b].tells(what);
        return 1;
    }

    public int mark(int b, int kind) {
        int refused = boardRefused(within(kind, TIDAL, ICED), b);
        if (refused != 0) return refused;
        Board board = boards[b];
        if (!board.isOf(kind)) return found(UNLIKE);
        if (kind == TIDAL && !board.hasTide(rows)) return NONE;
        if (kind == TIDAL) latestAsked = board.tideLevel(rows);
        else if (kind == NEST) latestAsked = board.allRests();
        else latestAsked = board.cells() - board.dryCells();
        return 1;
    }

    public int keep(int b, int to) {
        int refused = boardRefused(isBoard(to) && to != b, b);
        if (refused != 0) return refused;
        if (liesIn(b, to)) return STATE;
        clear(to);
        boards[to].takeOver(boards[b]);
        if (boards[to].kind == NEST) boards[to].kind = PLAIN;
        return boards[to].cells();
    }

    public int mirror(int b) {
        int refused = boardRefused(true, b);
        if (refused != 0) return refused;
        Board board = boards[b];
        if (board.kind == NEST) return found(UNLIKE);
        if (bearsNest(b)) return STATE;
        board.turn();
        for (int k = 0; k < BOATS; k++) {
            if (boats[k].board == b) boats[k].cell = board.opposite(boats[k].cell);
        }
        for (int k = 0; k < GAUGES; k++) {
            if (gauges[k].board == b) gauges[k].cell = board.opposite(gauges[k].cell);
        }
        return 1;
    }

    /** A STEP of a BOARD with all that is on it. */
    private boolean stepWhole(int b) {
        Board board = boards[b];
        if (!stepper.advance(board, rows)) return false;
        for (int k = 0; k < BOATS; k++) {
            if (boats[k].board == b) boats[k].drift(board);
        }
        for (int k = 0; k < GAUGES; k++) {
            if (gauges[k].board == b) gauges[k].read(board.level(gauges[k].cell));
        }
        return true;
    }

    private boolean bearsNest(int b) {
        for (int k = 0; k < BOARDS; k++) {
            if (boards[k].there && boards[k].kind == NEST && boards[k].lie.on == b) return true;
        }
        return false;
    }

    /** Whether the BOARD in place b is a NEST in the one in place n, at whatever depth. */
    private boolean liesIn(int b, int n) {
        int at = b;
        for (int depth = 0; depth < BOARDS; depth++) {
            if (!boards[at].there || boards[at].kind != NEST || !isBoard(boards[at].lie.on)) return false;
            at = boards[at].lie.on;
            if (at == n) return true;
        }
        return false;
    }

    /** What is in place b goes, and all that is on it or lies in it. */
    private void clear(int b) {
        removeBoard(b);
        // a chain of NESTS is no longer than there are BOARDS
        for (int round = 0; round < BOARDS; round++) {
            for (int k = 0; k < BOARDS; k++) {
                if (boards[k].there && boards[k].kind == NEST && !hasGround(k)) removeBoard(k);
            }
        }
    }

    /** Whether the BOARD on which the NEST in place k lies is there. */
    private boolean hasGround(int k) {
        int on = boards[k].lie.on;
        return isBoard(on) && boards[on].there;
    }

    private void removeBoard(int b) {
        boards[b].there = false;
        for (int k = 0; k < BOATS; k++) {
            if (boats[k].board == b) boats[k].board = NONE;
        }
        for (int k = 0; k < GAUGES; k++) {
            if (gauges[k].board == b) gauges[k].board = NONE;
        }
    }

    // ---- 3 boats, gauges, nests

    public int boat(int boat, int b, int cell, int draught) {
        int refused = cellRefused(within(boat, 0, BOATS - 1) && within(draught, 1, 1000), b, cell);
        if (refused != 0) return refused;
        int was = boats[boat].board == NONE ? 0 : 1;
        boats[boat].board = b;
        boats[boat].cell = cell;
        boats[boat].draught = draught;
        return was;
    }

    public int where(int boat) {
        if (!within(boat, 0, BOATS - 1)) return BAD;
        return boats[boat].board == NONE ? NONE : boats[boat].cell;
    }

    public int gauge(int g, int b, int cell) {
        int refused = cellRefused(isGauge(g), b, cell);
        if (refused != 0) return refused;
        int was = gauges[g].board == NONE ? 0 : 1;
        gauges[g].place(b, cell);
        return was;
    }

    public int reading(int g, int i) {
        if (!isGauge(g)) return BAD;
        int place = gauges[g].placeOf(i);
        if (place < 0) return NONE;
        latestAsked = gauges[g].levels[place];
        return 1;
    }

    public int lose(int g, int i) {
        if (!isGauge(g)) return BAD;
        int place = gauges[g].placeOf(i);
        if (place < 0) return STATE;
        gauges[g].lost[place] = true;
        return 1;
    }

    public int tone(int g, int p) {
        int refused = toneRefused(within(p, 4, PERIOD_MOST) && p % 4 == 0, g);
        if (refused != 0) return refused;
        latestTone.hear(gauges[g], p);
        return 1;
    }

    public int theTone(int g) {
        int refused = toneRefused(true, g);
        if (refused != 0) return refused;
        int best = 4;
        long greatest = -1;
        for (int p = 4; p <= PERIOD_MOST; p += 4) {
            trialTone.hear(gauges[g], p);
            if (trialTone.power() > greatest) {
                greatest = trialTone.power();
                best = p;
            }
        }
        return best;
    }

    public int part(boolean sine) {
        if (!latestTone.heard) return STATE;
        latestAsked = (int) (sine ? latestTone.s : latestTone.c);
        return 1;
    }

    public int nest(int n, int b, int x, int y, int w, int h) {
        boolean asTold = isBoard(n) && n != b && x >= 0 && y >= 0;
        int refused = boardRefused(asTold && within(w, 1, WIDEST / 2) && within(h, 1, HIGHEST / 2), b);
        if (refused != 0) return refused;
        if (x > boards[b].w - w || y > boards[b].h - h) return BAD;
        if (liesIn(b, n)) return STATE;
        clear(n);
        boards[n].reset(NEST, 2 * w, 2 * h);
        boards[n].lie.on = b;
        boards[n].lie.x = x;
        boards[n].lie.y = y;
        boards[n].layOn(boards[b]);
        return boards[n].cells();
    }

    public int up(int n) {
        int refused = nestRefused(n);
        if (refused != 0) return refused;
        latestAsked = boards[n].giveUp(boards[boards[n].lie.on]);
        return 1;
    }

    public int down(int n) {
        int refused = nestRefused(n);
        if (refused != 0) return refused;
        latestAsked = boards[n].takeDown(boards[boards[n].lie.on]);
        return 1;
    }

    private int toneRefused(boolean asTold, int g) {
        if (!asTold || !isGauge(g)) return BAD;
        if (gauges[g].board == NONE) return STATE;
        return gauges[g].kept() == 0 ? found(NOUGHT) : 0;
    }

    private int nestRefused(int n) {
        int refused = boardRefused(true, n);
        if (refused != 0) return refused;
        return boards[n].kind == NEST && isBoard(boards[n].lie.on) ? 0 : found(UNLIKE);
    }

    // ---- 4 fits, worlds

    public int fit(int b, int cell, int r) {
        int refused = fitRefused(rows.isNumber(r), b, cell, r);
        if (refused != 0) return refused;
        int best = bestPull(b, cell, r);
        if (best == NONE) return NONE;
        latestAsked = misfits[best];
        return best;
    }

    public int ends(int b, int cell, int r, int more) {
        int refused = fitRefused(rows.isNumber(r) && within(more, 0, WATER_MOST), b, cell, r);
        if (refused != 0) return refused;
        int best = bestPull(b, cell, r);
        if (best == NONE) return NONE;
        int least = 0;
        int greatest = 0;
        for (int pull = 1; pull <= PULL_MOST; pull++) {
            if (misfits[pull] == NONE || misfits[pull] > misfits[best] + more) continue;
            if (least == 0) least = pull;
            greatest = pull;
        }
        return 10 * least + greatest;
    }

    public int play(int b, int t) {
        if (!isBoard(b) || !texts.isNumber(t)) return BAD;
        if (!boards[b].there || !texts.isThere(t)) return found(NOTHING);
        if (faultOf(t) != NONE) return STATE;
        script.open(texts.places[t], texts.sizes[t]);
        int done = 0;
        for (int item = 0; item < TEXT_MOST && script.next(); item++) {
            boards[b].obey(script.letter, script.number);
            int more = script.stepsOfItem();
            for (int k = 0; k < more; k++) {
                if (!stepWhole(b)) return done;
                done++;
            }
        }
        return done;
    }

    public int world(int t, int weight) {
        if (!texts.isNumber(t) || !within(weight, 0, WEIGHT_MOST)) return BAD;
        if (worldCount >= WORLDS) return FULL;
        if (!texts.isThere(t)) return found(NOTHING);
        if (faultOf(t) != NONE) return STATE;
        worlds.make(worldCount, texts.sizes[t], BLANK);
        System.arraycopy(texts.places[t], 0, worlds.places[worldCount], 0, texts.sizes[t]);
        weights[worldCount] = weight;
        worldCount++;
        return worldCount - 1;
    }

    public int forget() {
        int were = worldCount;
        worldCount = 0;
        return were;
    }

    public int alarm(int b, int cell, int level) {
        int refused = alarmRefused(b, cell, level);
        if (refused != 0) return refused;
        tellFraction(alarmedWeight(b, cell, level, 0), allWeights());
        return 1;
    }

    public int post(int b, int face) {
        int refused = sideRefused(b, face);
        if (refused != 0) return refused;
        Board board = boards[b];
        if (board.postCount >= FEW) return FULL;
        board.posts[board.postCount] = face;
        board.postCount++;
        return board.postCount;
    }

    public int gates(int b, int cell, int level) {
        int refused = alarmRefused(b, cell, level);
        if (refused != 0) return refused;
        int best = 0;
        int least = alarmedWeight(b, cell, level, 0);
        for (int set = 1; set < 1 << boards[b].postCount; set++) {
            int alarmed = alarmedWeight(b, cell, level, set);
            boolean fewer = Integer.bitCount(set) < Integer.bitCount(best);
            if (alarmed < least || alarmed == least && fewer) {
                least = alarmed;
                best = set;
            }
        }
        tellFraction(least, allWeights());
        return best;
    }

    private int fitRefused(boolean asTold, int b, int cell, int r) {
        if (!asTold || !isBoard(b)) return BAD;
        if (!boards[b].there || !rows.isThere(r)) return found(NOTHING);
        if (!boards[b].hasCell(cell)) return found(BEYOND);
        return knownPlaces(r) == 0 ? found(NOUGHT) : 0;
    }

    /** THE FIT, or NONE; all MISFITS stand in misfits then. */
    private int bestPull(int b, int cell, int r) {
        int best = NONE;
        for (int pull = 1; pull <= PULL_MOST; pull++) {
            trial.takeOver(boards[b]);
            trial.laws.pull = pull;
            misfits[pull] = misfitOfTrial(cell, r);
            boolean better = best == NONE || misfits[pull] < misfits[best];
            if (misfits[pull] != NONE && better) best = pull;
        }
        return best;
    }

    private int misfitOfTrial(int cell, int r) {
        int sum = 0;
        for (int i = 0; i < rows.sizes[r]; i++) {
            if (!stepper.advance(trial, rows)) return NONE;
            int due = rows.places[r][i];
            if (due != NONE) sum += Math.abs(trial.level(cell) - due);
        }
        return sum;
    }

    private int alarmRefused(int b, int cell, int level) {
        int refused = cellRefused(within(level, -DEEP, WATER_MOST + DEEP), b, cell);
        if (refused != 0) return refused;
        return allWeights() == 0 ? found(NOUGHT) : 0;
    }

    private int allWeights() {
        int sum = 0;
        for (int k = 0; k < worldCount; k++) sum += weights[k];
        return sum;
    }

    /** The weights of WORLDS that come to the LEVEL when the posts of a set (bits) are shut ahead. */
    private int alarmedWeight(int b, int cell, int level, int set) {
        int sum = 0;
        for (int k = 0; k < worldCount; k++) {
            if (weights[k] == 0) continue;
            trial.takeOver(boards[b]);
            trial.shutPosts(set);
            if (trialComesTo(k, cell, level)) sum += weights[k];
        }
        return sum;
    }

    private boolean trialComesTo(int world, int cell, int level) {
        script.open(worlds.places[world], worlds.sizes[world]);
        for (int item = 0; item < TEXT_MOST && script.next(); item++) {
            trial.obey(script.letter, script.number);
            int more = script.stepsOfItem();
            for (int k = 0; k < more; k++) {
                if (!stepper.advance(trial, rows)) return false;
                if (trial.level(cell) >= level) return true;
            }
        }
        return false;
    }

    private void tellFraction(int above, int below) {
        int a = below;
        int b = above;
        // Euclid's way takes far fewer turns than that for ints
        for (int turn = 0; turn < 100 && b != 0; turn++) {
            int rest = a % b;
            a = b;
            b = rest;
        }
        if (a <= 0) return;
        latestUpper = above / a;
        latestLower = below / a;
    }

    // ---- 5 what is told

    public int asked() {
        return latestAsked;
    }

    public long strength() {
        return latestTone.power();
    }

    public long upper() {
        return latestUpper;
    }

    public long lower() {
        return latestLower;
    }

    public int count(int what) {
        if (what == 0) return rows.howMany();
        if (what == 1) return texts.howMany();
        if (what == 5) return worldCount;
        if (!within(what, 2, 4)) return BAD;
        int count = 0;
        if (what == 2) {
            for (int b = 0; b < BOARDS; b++) count += boards[b].there ? 1 : 0;
        } else if (what == 3) {
            for (int k = 0; k < BOATS; k++) count += boats[k].board == NONE ? 0 : 1;
        } else {
            for (int k = 0; k < GAUGES; k++) count += gauges[k].board == NONE ? 0 : 1;
        }
        return count;
    }

    public int finding() {
        return latestFinding;
    }

    public int findings(int f) {
        return within(f, NOTHING, SIZE) ? findingCounts[f] : BAD;
    }

    public long digest() {
        long h = 17;
        for (int b = 0; b < BOARDS; b++) h = boards[b].digested(h);
        for (int k = 0; k < BOATS; k++) h = boats[k].digested(h);
        for (int k = 0; k < GAUGES; k++) h = gauges[k].digested(h);
        return texts.digested(rows.digested(h));
    }

    // ---- what refuses

    private int found(int finding) {
        latestFinding = finding;
        findingCounts[finding]++;
        return FINDING;
    }

    /** 0, or why a call on a BOARD is refused; asTold: its other numbers are as told. */
    private int boardRefused(boolean asTold, int b) {
        if (!asTold || !isBoard(b)) return BAD;
        return boards[b].there ? 0 : found(NOTHING);
    }

    private int cellRefused(boolean asTold, int b, int cell) {
        int refused = boardRefused(asTold, b);
        if (refused != 0) return refused;
        return boards[b].hasCell(cell) ? 0 : found(BEYOND);
    }

    private int sideRefused(int b, int side) {
        int refused = boardRefused(true, b);
        if (refused != 0) return refused;
        return boards[b].hasSide(side) ? 0 : found(BEYOND);
    }

    private static boolean within(int v, int least, int greatest) {
        return v >= least && v <= greatest;
    }

    private static boolean isBoard(int b) {
        return b >= 0 && b < BOARDS;
    }

    private static boolean isGauge(int g) {
        return g >= 0 && g < GAUGES;
    }

    /** Rows of numbers with a size each, -1 where one is missing. */
    private static final class Shelf {
        private final int[][] places;
        private final int[] sizes;

        Shelf(int count, int most) {
            places = new int[count][most];
            sizes = new int[count];
            for (int k = 0; k < count; k++) sizes[k] = -1;
        }

        boolean isNumber(int k) {
            return k >= 0 && k < sizes.length;
        }

        boolean isThere(int k) {
            return sizes[k] >= 0;
        }

        boolean hasPlace(int k, int i) {
            return i >= 0 && i < sizes[k];
        }

        boolean hasRun(int k, int i, int n) {
            return i >= 0 && i <= sizes[k] && n <= sizes[k] - i;
        }

        void make(int k, int n, int v) {
            sizes[k] = n;
            for (int i = 0; i < n; i++) places[k][i] = v;
        }

        void remove(int k) {
            sizes[k] = -1;
        }

        int howMany() {
            int count = 0;
            for (int k = 0; k < sizes.length; k++) count += isThere(k) ? 1 : 0;
            return count;
        }

        long digested(long before) {
            long h = before;
            for (int k = 0; k < sizes.length; k++) {
                h = 31 * h + sizes[k];
                for (int i = 0; i < sizes[k]; i++) h = 31 * h + places[k][i];
            }
            return h;
        }
    }

    /** What pushes the WATER of a BOARD. */
    private static final class Laws {
        private int pull = 4;
        private int drag = 10;
        private int windX;
        private int windY;

        void reset() {
            pull = 4;
            drag = 10;
            windX = 0;
            windY = 0;
        }

        void takeOver(Laws other) {
            pull = other.pull;
            drag = other.drag;
            windX = other.windX;
            windY = other.windY;
        }
    }

    private static final class Rivers {
        private final int[] cell = new int[FEW];
        private final int[] much = new int[FEW];
        private int count;

        void takeOver(Rivers other) {
            count = other.count;
            for (int k = 0; k < FEW; k++) {
                cell[k] = other.cell[k];
                much[k] = other.much[k];
            }
        }

        void bringHundredths(int hundredths) {
            for (int k = 0; k < count; k++) much[k] = Math.min(RIVER_MOST, much[k] * hundredths / 100);
        }
    }

    /** How a NEST lies on its BOARD, with MARK and REST of each CELL beneath. */
    private static final class Lie {
        private final int[] mark = new int[CELLS / 4];
        private final int[] rest = new int[CELLS / 4];
        private int on = NONE;
        private int x;
        private int y;
    }

    private static final class Board {
        private final int[] bottom = new int[CELLS];
        private final int[] water = new int[CELLS];
        private final int[] stuff = new int[STUFFS * CELLS];
        private final int[] flow = new int[SIDES];
        private final boolean[] shut = new boolean[SIDES];
        private final Laws laws = new Laws();
        private final Rivers rivers = new Rivers();
        private final Lie lie = new Lie();
        private final int[] posts = new int[FEW];
        private int postCount;
        private boolean there;
        private int kind;
        private int w = 2;
        private int h = 1;
        private int steps;
        private int rain;
        private int lent;
        private int tideRow = NONE;
        private int tideMore;

        void reset(int newKind, int newW, int newH) {
            there = true;
            kind = newKind;
            w = newW;
            h = newH;
            steps = 0;
            rain = 0;
            lent = 0;
            tideRow = NONE;
            tideMore = 0;
            postCount = 0;
            rivers.count = 0;
            laws.reset();
            lie.on = NONE;
            for (int i = 0; i < CELLS; i++) {
                bottom[i] = 0;
                water[i] = 0;
            }
            for (int i = 0; i < STUFFS * CELLS; i++) stuff[i] = 0;
            for (int i = 0; i < SIDES; i++) {
                flow[i] = 0;
                shut[i] = false;
            }
        }

        /** All of another BOARD but how it lies in one. */
        void takeOver(Board other) {
            there = other.there;
            kind = other.kind;
            w = other.w;
            h = other.h;
            steps = other.steps;
            rain = other.rain;
            lent = other.lent;
            tideRow = other.tideRow;
            tideMore = other.tideMore;
            postCount = other.postCount;
            rivers.takeOver(other.rivers);
            laws.takeOver(other.laws);
            lie.on = NONE;
            System.arraycopy(other.bottom, 0, bottom, 0, CELLS);
            System.arraycopy(other.water, 0, water, 0, CELLS);
            System.arraycopy(other.stuff, 0, stuff, 0, STUFFS * CELLS);
            System.arraycopy(other.flow, 0, flow, 0, SIDES);
            System.arraycopy(other.posts, 0, posts, 0, FEW);
            for (int i = 0; i < SIDES; i++) shut[i] = other.shut[i];
        }

        int cells() {
            return w * h;
        }

        boolean hasCell(int cell) {
            return cell >= 0 && cell < w * h;
        }

        boolean hasSide(int side) {
            if (side < 0 || side >= 2 * w * h) return false;
            int cell = side / 2;
            return side % 2 == 1 ? cell + w < w * h : cell % w < w - 1;
        }

        /** The CELL to which a SIDE leads from its own. */
        int farCell(int side) {
            return side % 2 == 1 ? side / 2 + w : side / 2 + 1;
        }

        int level(int cell) {
            return bottom[cell] + water[cell];
        }

        boolean isTidal() {
            return kind == TIDAL || kind == ICED;
        }

        boolean isOf(int asked) {
            return kind == asked || asked == TIDAL && isTidal();
        }

        boolean hasTide(Shelf rows) {
            return isTidal() && rows.isNumber(tideRow) && rows.sizes[tideRow] > 0;
        }

        int tideLevel(Shelf rows) {
            int place = Math.floorMod(steps, rows.sizes[tideRow]);
            return rows.places[tideRow][place] + tideMore;
        }

        int windAt(int side) {
            if (kind == ICED) return 0;
            return side % 2 == 1 ? laws.windY : laws.windX;
        }

        void shutPosts(int set) {
            for (int k = 0; k < postCount; k++) {
                if ((set >> k & 1) == 1) shut[posts[k]] = true;
            }
        }

        /** An item of a TEXT; S is left to the one that steps. */
        void obey(int letter, int number) {
            switch (letter) {
                case 'W':
                    laws.windX = number;
                    break;
                case 'V':
                    laws.windY = number;
                    break;
                case 'G':
                    if (hasSide(number)) shut[number] = !shut[number];
                    break;
                case 'T':
                    if (isTidal()) tideMore = number;
                    break;
                case 'P':
                    laws.pull = number;
                    break;
                case 'R':
                    rivers.bringHundredths(number);
                    break;
                default:
                    break;
            }
        }

        int tells(int what) {
            switch (what) {
                case 0:
                    return kind;
                case 1:
                    return w;
                case 2:
                    return h;
                case 3:
                    return steps;
                case 4:
                    return sum(water, 0);
                case 5:
                    return rain;
                case 6:
                    return lent;
                case 10:
                    return dryCells();
                default:
                    return sum(stuff, (what - 7) * CELLS);
            }
        }

        private int sum(int[] of, int from) {
            int sum = 0;
            for (int i = 0; i < cells(); i++) sum += of[from + i];
            return sum;
        }

        int dryCells() {
            int dry = 0;
            for (int i = 0; i < cells(); i++) dry += water[i] == 0 ? 1 : 0;
            return dry;
        }

        int allRests() {
            int sum = 0;
            for (int k = 0; k < cells() / 4; k++) sum += lie.rest[k];
            return sum;
        }

        /** The CELL at which another one is in the mirror. */
        int opposite(int cell) {
            int x = cell % w;
            return cell - x + w - 1 - x;
        }

        void turn() {
            for (int c = 0; c < cells(); c++) {
                int other = opposite(c);
                if (c < other) swapCells(c, other);
                // a right SIDE stands between two CELLS, so that of x comes to W - 2 less x
                int side = 2 * c;
                if (hasSide(side) && side <= 2 * other - 2) swapRightSides(side, 2 * other - 2);
            }
            laws.windX = -laws.windX;
            for (int k = 0; k < rivers.count; k++) rivers.cell[k] = opposite(rivers.cell[k]);
        }

        private void swapCells(int c, int other) {
            swap(bottom, c, other);
            swap(water, c, other);
            for (int k = 0; k < STUFFS; k++) swap(stuff, k * CELLS + c, k * CELLS + other);
            swap(flow, 2 * c + 1, 2 * other + 1);
            swapShut(2 * c + 1, 2 * other + 1);
        }

        private void swapRightSides(int side, int other) {
            if (side != other) swap(flow, side, other);
            flow[side] = -flow[side];
            if (side != other) flow[other] = -flow[other];
            swapShut(side, other);
        }

        private void swapShut(int side, int other) {
            boolean was = shut[side];
            shut[side] = shut[other];
            shut[other] = was;
        }

        private static void swap(int[] of, int i, int j) {
            int was = of[i];
            of[i] = of[j];
            of[j] = was;
        }

        /** Of the CELLS beneath a NEST the number on the BOARD there of its kth. */
        private int underCell(int k, Board coarse) {
            int across = w / 2;
            return (lie.y + k / across) * coarse.w + lie.x + k % across;
        }

        /** The ith of the four fine CELLS on the kth CELL beneath. */
        private int fineCell(int k, int i) {
            int across = w / 2;
            int fineX = 2 * (k % across) + i % 2;
            int fineY = 2 * (k / across) + i / 2;
            return fineY * w + fineX;
        }

        void layOn(Board coarse) {
            for (int k = 0; k < cells() / 4; k++) {
                int under = underCell(k, coarse);
                for (int i = 0; i < 4; i++) {
                    int fine = fineCell(k, i);
                    bottom[fine] = coarse.bottom[under];
                    water[fine] = coarse.water[under];
                }
                lie.mark[k] = coarse.water[under];
                lie.rest[k] = 0;
            }
        }

        /** UP: by how much the WATER beneath is more. */
        int giveUp(Board coarse) {
            int more = 0;
            for (int k = 0; k < cells() / 4; k++) {
                int under = underCell(k, coarse);
                int sum = lie.rest[k];
                for (int i = 0; i < 4; i++) sum += water[fineCell(k, i)];
                int led = Math.max(0, Math.min(WATER_MOST, Math.floorDiv(sum, 4)));
                more += led - coarse.water[under];
                coarse.water[under] = led;
                lie.mark[k] = led;
                lie.rest[k] = sum - 4 * led;
            }
            return more;
        }

        /** DOWN: by how much the WATER of the NEST is more. */
        int takeDown(Board coarse) {
            int before = sum(water, 0);
            for (int k = 0; k < cells() / 4; k++) {
                int under = underCell(k, coarse);
                int more = coarse.water[under] - lie.mark[k];
                for (int i = 0; i < 4; i++) water[fineCell(k, i)] += more;
                for (int i = 0; i < 4; i++) lie.rest[k] -= unfilled(k, i);
                for (int i = 0; i < 4; i++) {
                    int over = Math.max(0, water[fineCell(k, i)] - WATER_MOST);
                    water[fineCell(k, i)] -= over;
                    lie.rest[k] += over;
                }
                lie.mark[k] = coarse.water[under];
            }
            return sum(water, 0) - before;
        }

        /** A fine CELL below 0 takes from the next ones of its four: what still lacks. */
        private int unfilled(int k, int i) {
            int lack = -water[fineCell(k, i)];
            if (lack <= 0) return 0;
            water[fineCell(k, i)] = 0;
            for (int j = 1; j < 4; j++) {
                int next = fineCell(k, (i + j) % 4);
                int taken = Math.max(0, Math.min(lack, water[next]));
                water[next] -= taken;
                lack -= taken;
            }
            return lack;
        }

        long digested(long before) {
            if (!there) return 31 * before - 1;
            long d = before;
            for (int what = 0; what <= 10; what++) d = 31 * d + tells(what);
            for (int c = 0; c < cells(); c++) {
                d = 31 * d + bottom[c];
                d = 31 * d + water[c];
                for (int k = 0; k < STUFFS; k++) d = 31 * d + stuff[k * CELLS + c];
            }
            for (int side = 0; side < 2 * cells(); side++) {
                if (!hasSide(side)) continue;
                d = 31 * d + flow[side];
                d = 31 * d + (shut[side] ? 1 : 0);
            }
            return d;
        }
    }

    /** Does a STEP of a BOARD on rows of its own, so that one that can't be done leaves nothing. */
    private static final class Stepper {
        private final int[] flow = new int[SIDES];
        private final int[] out = new int[CELLS];
        private final int[] water = new int[CELLS];
        private final int[] stuff = new int[CELLS];

        boolean advance(Board b, Shelf rows) {
            pushFlows(b);
            limitFlows(b);
            moveWater(b);
            int rain = addRivers(b);
            if (tooMuch(b)) return false;
            for (int k = 0; k < STUFFS; k++) carryStuff(b, k * CELLS);
            System.arraycopy(flow, 0, b.flow, 0, 2 * b.cells());
            System.arraycopy(water, 0, b.water, 0, b.cells());
            b.rain += rain;
            if (b.hasTide(rows)) leadRim(b, b.tideLevel(rows));
            b.steps++;
            return true;
        }

        private void pushFlows(Board b) {
            for (int side = 0; side < 2 * b.cells(); side++) {
                flow[side] = b.hasSide(side) && !b.shut[side] ? pushed(b, side) : 0;
            }
        }

        private int pushed(Board b, int side) {
            int p = side / 2;
            int q = b.farCell(side);
            int levelP = b.level(p);
            int levelQ = b.level(q);
            int f = b.flow[side] + b.laws.pull * (levelP - levelQ) / 8 + b.windAt(side);
            if (b.laws.drag > 0) f -= f / b.laws.drag;
            if (f > 0 && (b.water[p] == 0 || b.bottom[q] >= levelP)) return 0;
            if (f < 0 && (b.water[q] == 0 || b.bottom[p] >= levelQ)) return 0;
            return f;
        }

        private void limitFlows(Board b) {
            for (int c = 0; c < b.cells(); c++) out[c] = 0;
            for (int side = 0; side < 2 * b.cells(); side++) {
                if (flow[side] != 0) out[source(b, side)] += Math.abs(flow[side]);
            }
            for (int side = 0; side < 2 * b.cells(); side++) {
                if (flow[side] == 0) continue;
                int from = source(b, side);
                if (out[from] > b.water[from]) flow[side] = share(flow[side], b.water[from], out[from]);
            }
        }

        /** The CELL from which the FLOW of a SIDE leads away. */
        private int source(Board b, int side) {
            return flow[side] > 0 ? side / 2 : b.farCell(side);
        }

        private static int share(int amount, int part, int whole) {
            return whole > 0 ? (int) ((long) amount * part / whole) : 0;
        }

        private void moveWater(Board b) {
            System.arraycopy(b.water, 0, water, 0, b.cells());
            for (int side = 0; side < 2 * b.cells(); side++) {
                if (flow[side] == 0) continue;
                water[side / 2] -= flow[side];
                water[b.farCell(side)] += flow[side];
            }
        }

        private int addRivers(Board b) {
            int rain = 0;
            for (int k = 0; k < b.rivers.count; k++) {
                water[b.rivers.cell[k]] += b.rivers.much[k];
                rain += b.rivers.much[k];
            }
            return rain;
        }

        private boolean tooMuch(Board b) {
            for (int c = 0; c < b.cells(); c++) {
                if (water[c] > WATER_MOST) return true;
            }
            return false;
        }

        /** With the WATER of the BOARD still as it was. */
        private void carryStuff(Board b, int at) {
            System.arraycopy(b.stuff, at, stuff, 0, b.cells());
            for (int side = 0; side < 2 * b.cells(); side++) {
                if (flow[side] == 0) continue;
                int from = source(b, side);
                int to = flow[side] > 0 ? b.farCell(side) : side / 2;
                int taken = share(b.stuff[at + from], Math.abs(flow[side]), b.water[from]);
                stuff[from] -= taken;
                stuff[to] += taken;
            }
            System.arraycopy(stuff, 0, b.stuff, at, b.cells());
        }

        private static void leadRim(Board b, int level) {
            for (int y = 0; y < b.h; y++) {
                int c = y * b.w;
                int led = Math.max(0, Math.min(WATER_MOST, level - b.bottom[c]));
                b.lent += led - b.water[c];
                b.water[c] = led;
            }
        }
    }

    /** Reads a TEXT item by item. */
    private static final class Script {
        private int[] bytes = new int[0];
        private int size;
        private int at;
        private int letter;
        private int number;
        private int steps;
        private int fault = NONE;

        void open(int[] newBytes, int newSize) {
            bytes = newBytes;
            size = newSize;
            at = 0;
            steps = 0;
            fault = NONE;
        }

        /** Whether there was one more item; if not, fault tells whether for a FAULT. */
        boolean next() {
            while (at < size && bytes[at] == BLANK) at++;
            if (at >= size || fault != NONE) return false;
            int start = at;
            letter = bytes[at];
            if (greatest() == NONE) return failed(at);
            at++;
            boolean below = at < size && bytes[at] == MINUS;
            if (below) at++;
            if (!digitAhead()) return failed(at);
            int value = 0;
            for (int digits = 0; digits < 4 && digitAhead(); digits++) {
                value = 10 * value + bytes[at] - '0';
                at++;
            }
            if (digitAhead()) return failed(at);
            number = below ? -value : value;
            if (number < least() || number > greatest()) return failed(start);
            steps += stepsOfItem();
            return steps <= TEXT_STEPS_MOST || failed(start);
        }

        int stepsOfItem() {
            return letter == 'S' ? number : 0;
        }

        private boolean failed(int place) {
            fault = place;
            return false;
        }

        private boolean digitAhead() {
            return at < size && bytes[at] >= '0' && bytes[at] <= '9';
        }

        private int least() {
            switch (letter) {
                case 'W':
                case 'V':
                    return -WIND_MOST;
                case 'T':
                    return -MORE_MOST;
                case 'P':
                    return 1;
                default:
                    return 0;
            }
        }

        /** NONE: there is no such letter. */
        private int greatest() {
            switch (letter) {
                case 'W':
                case 'V':
                    return WIND_MOST;
                case 'S':
                    return TEXT_STEPS_MOST;
                case 'G':
                    return 9999;
                case 'T':
                    return MORE_MOST;
                case 'P':
                    return PULL_MOST;
                case 'R':
                    return 1000;
                default:
                    return NONE;
            }
        }
    }

    /** Missing: its BOARD is NONE. */
    private static final class Boat {
        private int board = NONE;
        private int cell;
        private int draught;

        void drift(Board on) {
            int[] flow = on.flow;
            int from = cell;
            int greatest = draught - 1;
            if (on.hasSide(2 * from) && flow[2 * from] > greatest) {
                greatest = flow[2 * from];
                cell = from + 1;
            }
            if (on.hasSide(2 * from + 1) && flow[2 * from + 1] > greatest) {
                greatest = flow[2 * from + 1];
                cell = from + on.w;
            }
            int left = 2 * (from - 1);
            if (on.hasSide(left) && -flow[left] > greatest) {
                greatest = -flow[left];
                cell = from - 1;
            }
            int lower = 2 * (from - on.w) + 1;
            if (on.hasSide(lower) && -flow[lower] > greatest) cell = from - on.w;
        }

        long digested(long before) {
            if (board == NONE) return 31 * before - 1;
            return 31 * (31 * (31 * before + board) + cell) + draught;
        }
    }

    /** Missing: its BOARD is NONE. Its READINGS stand in a ring. */
    private static final class Gauge {
        private final int[] levels = new int[READINGS];
        private final boolean[] lost = new boolean[READINGS];
        private int board = NONE;
        private int cell;
        private int first;
        private int size;

        void place(int b, int newCell) {
            board = b;
            cell = newCell;
            first = 0;
            size = 0;
        }

        void read(int level) {
            int next = fromOldest(size);
            levels[next] = level;
            lost[next] = false;
            if (size < READINGS) size++;
            else first = fromOldest(1);
        }

        int fromOldest(int i) {
            return (first + i) % READINGS;
        }

        /** Where READING i (0 the latest) stands; -1: LOST, none such, no GAUGE. */
        int placeOf(int i) {
            if (board == NONE || i < 0 || i >= size) return -1;
            int place = fromOldest(size - 1 - i);
            return lost[place] ? -1 : place;
        }

        /** How many READINGS are not LOST. */
        int kept() {
            int kept = 0;
            for (int i = 0; i < size; i++) kept += lost[fromOldest(i)] ? 0 : 1;
            return kept;
        }

        long digested(long before) {
            if (board == NONE) return 31 * before - 1;
            long d = 31 * (31 * (31 * before + board) + cell) + size;
            for (int i = 0; i < size; i++) {
                int place = fromOldest(i);
                d = 31 * d + (lost[place] ? NONE : levels[place]);
            }
            return d;
        }
    }

    private static final class Tone {
        private long c;
        private long s;
        private boolean heard;

        void hear(Gauge g, int p) {
            c = 0;
            s = 0;
            heard = true;
            for (int i = 0; i < g.size; i++) {
                int place = g.fromOldest(i);
                if (g.lost[place]) continue;
                c += signed(g.levels[place], i, p);
                s += signed(g.levels[place], i + p / 4, p);
            }
        }

        private static int signed(int level, int number, int p) {
            return number % p >= p / 2 ? -level : level;
        }

        long power() {
            return c * c + s * s;
        }
    }
}
