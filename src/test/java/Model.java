import java.util.ArrayList;
import java.util.LinkedHashMap;
import java.util.List;
import java.util.Map;

/**
 * The document once more, written as slowly and plainly as can be, to compare the class with in long runs: every
 * answer is worked out anew from maps of places, by longs, and nothing is used again.
 */
final class Model {
    static final class Refusal extends RuntimeException {
        private static final long serialVersionUID = 1L;
        final int answer;

        Refusal(int answer) {
            super(null, null, false, false);
            this.answer = answer;
        }
    }

    /** Two CELLS side by side, the first being the one whose SIDE it is. */
    static final class Side {
        final int number, fromX, fromY, toX, toY;
        long flow;
        boolean shut;

        Side(int number, int fromX, int fromY, int toX, int toY) {
            this.number = number;
            this.fromX = fromX;
            this.fromY = fromY;
            this.toX = toX;
            this.toY = toY;
        }

        boolean upper() {
            return toY != fromY;
        }
    }

    static final class Sea {
        int kind, w, h;
        long[][] bottom, water;
        long[][][] stuff;
        Map<Integer, Side> sides = new LinkedHashMap<>();
        long pull = 4, drag = 10, windX, windY, steps;
        int rain, lent;
        List<long[]> rivers = new ArrayList<>();
        int tideRow = -1;
        long more;
        List<Integer> posts = new ArrayList<>();
        Sea on;
        int onX, onY;
        long[][] mark, rest;

        Sea(int kind, int w, int h) {
            this.kind = kind;
            this.w = w;
            this.h = h;
            bottom = new long[w][h];
            water = new long[w][h];
            stuff = new long[3][w][h];
            for (int y = 0; y < h; y++) {
                for (int x = 0; x < w; x++) {
                    int n = 2 * (w * y + x);
                    if (x + 1 < w) sides.put(n, new Side(n, x, y, x + 1, y));
                    if (y + 1 < h) sides.put(n + 1, new Side(n + 1, x, y, x, y + 1));
                }
            }
        }

        Sea again(int asKind) {
            Sea s = new Sea(asKind, w, h);
            for (int x = 0; x < w; x++) {
                for (int y = 0; y < h; y++) {
                    s.bottom[x][y] = bottom[x][y];
                    s.water[x][y] = water[x][y];
                    for (int k = 0; k < 3; k++) s.stuff[k][x][y] = stuff[k][x][y];
                }
            }
            for (Side side : sides.values()) {
                s.sides.get(side.number).flow = side.flow;
                s.sides.get(side.number).shut = side.shut;
            }
            s.pull = pull;
            s.drag = drag;
            s.windX = windX;
            s.windY = windY;
            s.steps = steps;
            s.rain = rain;
            s.lent = lent;
            for (long[] r : rivers) s.rivers.add(r.clone());
            s.tideRow = tideRow;
            s.more = more;
            s.posts.addAll(posts);
            return s;
        }

        boolean has(int cell) {
            return cell >= 0 && cell < w * h;
        }

        long level(int x, int y) {
            return bottom[x][y] + water[x][y];
        }

        long levelAt(int cell) {
            return level(cell % w, cell / w);
        }

        boolean tidal() {
            return kind == 1 || kind == 3;
        }

        boolean within(Sea other) {
            for (Sea s = on; s != null; s = s.on) if (s == other) return true;
            return false;
        }

        long all(long[][] of) {
            long sum = 0;
            for (long[] column : of) for (long v : column) sum += v;
            return sum;
        }

        long tells(int what) {
            if (what == 0) return kind;
            if (what == 1) return w;
            if (what == 2) return h;
            if (what == 3) return steps;
            if (what == 4) return all(water);
            if (what == 5) return rain;
            if (what == 6) return lent;
            if (what <= 9) return all(stuff[what - 7]);
            long dry = 0;
            for (long[] column : water) for (long v : column) if (v == 0) dry++;
            return dry;
        }
    }

    static final class Floater {
        int board, cell, draught;
        List<Integer> readings = new ArrayList<>();
        List<Boolean> lost = new ArrayList<>();
    }

    static final class Item {
        char letter;
        int number;
    }

    int[][] rows = new int[6][];
    byte[][] texts = new byte[6][];
    Sea[] seas = new Sea[6];
    Floater[] boats = new Floater[8];
    Floater[] gauges = new Floater[8];
    List<byte[]> worlds = new ArrayList<>();
    List<Integer> weights = new ArrayList<>();
    int asked, finding;
    int[] found = new int[6];
    long strength, c, s, upper, lower = 1;
    boolean toned;

    // ---- refusals

    private void bad(boolean isBad) {
        if (isBad) throw new Refusal(-1);
    }

    private void full(boolean isFull) {
        if (isFull) throw new Refusal(-2);
    }

    private void state(boolean isState) {
        if (isState) throw new Refusal(-4);
    }

    private void find(boolean isFound, int f) {
        if (!isFound) return;
        finding = f;
        found[f]++;
        throw new Refusal(-3);
    }

    private static boolean out(int v, int least, int greatest) {
        return v < least || v > greatest;
    }

    private int tell(long v) {
        asked = (int) v;
        return 1;
    }

    // ---- calls, by name

    int call(String name, int... a) {
        try {
            return answer(name, a);
        } catch (Refusal r) {
            return r.answer;
        }
    }

    private int answer(String name, int[] a) {
        switch (name) {
            case "row": return row(a[0], a[1]);
            case "lay": return lay(a[0], a[1], a[2]);
            case "tear": return tear(a[0]);
            case "copy": return copy(a[0], a[1], a[2], a[3], a[4]);
            case "mean": return mean(a[0]);
            case "text": return text(a[0], a[1]);
            case "put": return put(a[0], a[1], a[2]);
            case "burn": return burn(a[0]);
            case "fault": return fault(a[0]);
            case "board": return board(a[0], a[1], a[2], a[3]);
            case "drop": return drop(a[0]);
            case "bottom": return bottom(a[0], a[1], a[2]);
            case "water": return water(a[0], a[1], a[2]);
            case "spill": return spill(a[0], a[1], a[2], a[3]);
            case "cell": return cell(a[0], a[1], a[2]);
            case "flow": return flow(a[0], a[1]);
            case "gate": return gate(a[0], a[1], a[2] != 0);
            case "law": return law(a[0], a[1], a[2]);
            case "wind": return wind(a[0], a[1], a[2]);
            case "river": return river(a[0], a[1], a[2]);
            case "tide": return tide(a[0], a[1], a[2]);
            case "step": return step(a[0], a[1]);
            case "told": return told(a[0], a[1]);
            case "mark": return mark(a[0], a[1]);
            case "keep": return keep(a[0], a[1]);
            case "mirror": return mirror(a[0]);
            default: return answerMore(name, a);
        }
    }

    private int answerMore(String name, int[] a) {
        switch (name) {
            case "boat": return boat(a[0], a[1], a[2], a[3]);
            case "where": return where(a[0]);
            case "gauge": return gauge(a[0], a[1], a[2]);
            case "reading": return reading(a[0], a[1]);
            case "lose": return lose(a[0], a[1]);
            case "tone": return tone(a[0], a[1]);
            case "theTone": return theTone(a[0]);
            case "part": return part(a[0] != 0);
            case "nest": return nest(a[0], a[1], a[2], a[3], a[4], a[5]);
            case "up": return up(a[0]);
            case "down": return down(a[0]);
            case "fit": return fit(a[0], a[1], a[2]);
            case "ends": return ends(a[0], a[1], a[2], a[3]);
            case "play": return play(a[0], a[1]);
            case "world": return world(a[0], a[1]);
            case "forget": return forget();
            case "alarm": return alarm(a[0], a[1], a[2]);
            case "post": return post(a[0], a[1]);
            case "gates": return gates(a[0], a[1], a[2]);
            case "count": return count(a[0]);
            case "findings": return findings(a[0]);
            default: throw new IllegalStateException(name);
        }
    }

    // ---- rows, texts

    private int row(int r, int n) {
        bad(out(r, 0, 5) || n > 48);
        find(n < 0, 5);
        rows[r] = new int[n];
        return n;
    }

    private int lay(int r, int i, int v) {
        bad(out(r, 0, 5) || out(v, -100000, 100000));
        find(rows[r] == null, 1);
        find(out(i, 0, rows[r].length - 1), 2);
        tell(rows[r][i]);
        rows[r][i] = v;
        return 1;
    }

    private int tear(int r) {
        bad(out(r, 0, 5));
        find(rows[r] == null, 1);
        rows[r] = null;
        return 1;
    }

    private int copy(int r, int i, int to, int j, int n) {
        bad(out(r, 0, 5) || out(to, 0, 5));
        find(n < 0, 5);
        find(rows[r] == null || rows[to] == null, 1);
        find(i < 0 || j < 0 || (long) i + n > rows[r].length || (long) j + n > rows[to].length, 2);
        int[] ahead = rows[r].clone();
        for (int k = 0; k < n; k++) rows[to][j + k] = ahead[i + k];
        return 1;
    }

    private List<Integer> known(int r) {
        List<Integer> known = new ArrayList<>();
        for (int v : rows[r]) if (v != -9) known.add(v);
        return known;
    }

    private int mean(int r) {
        bad(out(r, 0, 5));
        find(rows[r] == null, 1);
        List<Integer> known = known(r);
        find(known.isEmpty(), 4);
        long sum = 0;
        for (int v : known) sum += v;
        return tell(sum / known.size());
    }

    private int text(int t, int n) {
        bad(out(t, 0, 5) || n > 40);
        find(n < 0, 5);
        texts[t] = new byte[n];
        java.util.Arrays.fill(texts[t], (byte) 32);
        return n;
    }

    private int put(int t, int i, int v) {
        bad(out(t, 0, 5));
        find(texts[t] == null, 1);
        find(out(i, 0, texts[t].length - 1), 2);
        int was = texts[t][i];
        texts[t][i] = (byte) v;
        return was + 1000;
    }

    private int burn(int t) {
        bad(out(t, 0, 5));
        find(texts[t] == null, 1);
        texts[t] = null;
        return 1;
    }

    private int fault(int t) {
        bad(out(t, 0, 5));
        find(texts[t] == null, 1);
        return items(texts[t], new ArrayList<>());
    }

    /** The items of a TEXT as far as they go; the place of its FAULT, or NONE. */
    private static int items(byte[] bytes, List<Item> to) {
        String text = new String(bytes, java.nio.charset.StandardCharsets.ISO_8859_1);
        java.util.regex.Pattern item = java.util.regex.Pattern.compile("([WVSGTPR])(-?)([0-9]{1,4})(?![0-9])");
        int steps = 0;
        int at = 0;
        while (true) {
            while (at < text.length() && text.charAt(at) == ' ') at++;
            if (at == text.length()) return -9;
            java.util.regex.Matcher m = item.matcher(text);
            if (!m.find(at) || m.start() != at) return broken(text, at);
            Item i = new Item();
            i.letter = m.group(1).charAt(0);
            i.number = Integer.parseInt(m.group(2) + m.group(3));
            int[] ends = ends(i.letter);
            if (i.number < ends[0] || i.number > ends[1]) return at;
            if (i.letter == 'S') steps += i.number;
            if (steps > 24) return at;
            to.add(i);
            at = m.end();
        }
    }

    private static int broken(String text, int at) {
        if ("WVSGTPR".indexOf(text.charAt(at)) < 0) return at;
        String behind = text.substring(at + 1);
        int sign = behind.startsWith("-") ? 1 : 0;
        int digits = 0;
        while (sign + digits < behind.length() && "0123456789".indexOf(behind.charAt(sign + digits)) >= 0) digits++;
        return at + 1 + sign + Math.min(digits, 4);
    }

    private static int[] ends(char letter) {
        switch (letter) {
            case 'W': case 'V': return new int[] {-50, 50};
            case 'S': return new int[] {0, 24};
            case 'G': return new int[] {0, 9999};
            case 'T': return new int[] {-500, 500};
            case 'P': return new int[] {1, 8};
            default: return new int[] {0, 1000};
        }
    }

    // ---- boards

    private void remove(int b) {
        Sea gone = seas[b];
        if (gone == null) return;
        for (int k = 0; k < 6; k++) if (seas[k] != null && seas[k].on == gone) remove(k);
        seas[b] = null;
        for (int k = 0; k < 8; k++) {
            if (boats[k] != null && boats[k].board == b) boats[k] = null;
            if (gauges[k] != null && gauges[k].board == b) gauges[k] = null;
        }
    }

    private int board(int b, int kind, int w, int h) {
        bad(out(b, 0, 5) || out(kind, 0, 3) || kind == 2 || out(w, 2, 8) || out(h, 1, 6));
        remove(b);
        seas[b] = new Sea(kind, w, h);
        return w * h;
    }

    private int drop(int b) {
        bad(out(b, 0, 5));
        find(seas[b] == null, 1);
        remove(b);
        return 1;
    }

    private Sea seaOf(int b, boolean isBad) {
        bad(isBad || out(b, 0, 5));
        find(seas[b] == null, 1);
        return seas[b];
    }

    private Sea seaOf(int b, int cell, boolean isBad) {
        Sea sea = seaOf(b, isBad);
        find(!sea.has(cell), 2);
        return sea;
    }

    private int bottom(int b, int cell, int v) {
        Sea sea = seaOf(b, cell, out(v, -1000, 1000));
        tell(sea.bottom[cell % sea.w][cell / sea.w]);
        sea.bottom[cell % sea.w][cell / sea.w] = v;
        return 1;
    }

    private int water(int b, int cell, int v) {
        Sea sea = seaOf(b, cell, out(v, 0, 100000));
        long was = sea.water[cell % sea.w][cell / sea.w];
        sea.water[cell % sea.w][cell / sea.w] = v;
        return (int) was;
    }

    private int spill(int b, int cell, int stuff, int v) {
        Sea sea = seaOf(b, cell, out(stuff, 0, 2) || out(v, 0, 100000));
        long was = sea.stuff[stuff][cell % sea.w][cell / sea.w];
        sea.stuff[stuff][cell % sea.w][cell / sea.w] = v;
        return (int) was;
    }

    private int cell(int b, int cell, int what) {
        Sea sea = seaOf(b, cell, out(what, 0, 5));
        int x = cell % sea.w;
        int y = cell / sea.w;
        long[] all = {sea.bottom[x][y], sea.water[x][y], sea.level(x, y), sea.stuff[0][x][y], sea.stuff[1][x][y],
            sea.stuff[2][x][y]};
        return tell(all[what]);
    }

    private Side sideOf(int b, int face) {
        Sea sea = seaOf(b, false);
        find(!sea.sides.containsKey(face), 2);
        return sea.sides.get(face);
    }

    private int flow(int b, int face) {
        return tell(sideOf(b, face).flow);
    }

    private int gate(int b, int face, boolean shut) {
        Side side = sideOf(b, face);
        int was = side.shut ? 1 : 0;
        side.shut = shut;
        return was;
    }

    private int law(int b, int pull, int drag) {
        Sea sea = seaOf(b, out(pull, 1, 8) || out(drag, 2, 1000));
        sea.pull = pull;
        sea.drag = drag;
        return 1;
    }

    private int wind(int b, int x, int y) {
        Sea sea = seaOf(b, out(x, -50, 50) || out(y, -50, 50));
        sea.windX = x;
        sea.windY = y;
        return 1;
    }

    private int river(int b, int cell, int much) {
        Sea sea = seaOf(b, out(much, 0, 1000));
        full(sea.rivers.size() == 4);
        find(!sea.has(cell), 2);
        sea.rivers.add(new long[] {cell % sea.w, cell / sea.w, much});
        return sea.rivers.size();
    }

    private int tide(int b, int r, int more) {
        Sea sea = seaOf(b, out(r, 0, 5) || out(more, -500, 500));
        find(!sea.tidal(), 3);
        sea.tideRow = r;
        sea.more = more;
        return 1;
    }

    /** The LEVEL of THE RIM; null: there is no TIDE. */
    private Long tideOf(Sea sea) {
        if (!sea.tidal() || sea.tideRow < 0 || rows[sea.tideRow] == null || rows[sea.tideRow].length == 0) return null;
        return rows[sea.tideRow][(int) (sea.steps % rows[sea.tideRow].length)] + sea.more;
    }

    private boolean advance(Sea sea) {
        Map<Integer, Long> flows = new LinkedHashMap<>();
        for (Side side : sea.sides.values()) flows.put(side.number, pushed(sea, side));
        long[][] out = new long[sea.w][sea.h];
        for (Side side : sea.sides.values()) {
            long f = flows.get(side.number);
            if (f > 0) out[side.fromX][side.fromY] += f;
            if (f < 0) out[side.toX][side.toY] -= f;
        }
        for (Side side : sea.sides.values()) {
            long f = flows.get(side.number);
            if (f == 0) continue;
            int x = f > 0 ? side.fromX : side.toX;
            int y = f > 0 ? side.fromY : side.toY;
            long magnitude = Math.abs(f);
            if (out[x][y] > sea.water[x][y]) magnitude = magnitude * sea.water[x][y] / out[x][y];
            flows.put(side.number, f > 0 ? magnitude : -magnitude);
        }
        long[][] water = new long[sea.w][sea.h];
        for (int x = 0; x < sea.w; x++) for (int y = 0; y < sea.h; y++) water[x][y] = sea.water[x][y];
        long[][][] stuff = sea.again(0).stuff;
        for (Side side : sea.sides.values()) {
            long f = flows.get(side.number);
            if (f > 0) carry(sea, water, stuff, side.fromX, side.fromY, side.toX, side.toY, f);
            if (f < 0) carry(sea, water, stuff, side.toX, side.toY, side.fromX, side.fromY, -f);
        }
        for (long[] column : water) for (long v : column) if (v > 100000) return false;
        int rain = 0;
        for (long[] r : sea.rivers) {
            water[(int) r[0]][(int) r[1]] += r[2];
            rain += (int) r[2];
        }
        for (long[] column : water) for (long v : column) if (v > 100000) return false;
        Long tide = tideOf(sea);
        sea.water = water;
        sea.stuff = stuff;
        sea.rain += rain;
        for (Side side : sea.sides.values()) side.flow = flows.get(side.number);
        for (int y = 0; tide != null && y < sea.h; y++) {
            long due = Math.min(100000, Math.max(0, tide - sea.bottom[0][y]));
            sea.lent += (int) (due - water[0][y]);
            water[0][y] = due;
        }
        return true;
    }

    private static long pushed(Sea sea, Side side) {
        if (side.shut) return 0;
        long levelP = sea.level(side.fromX, side.fromY);
        long levelQ = sea.level(side.toX, side.toY);
        long f = side.flow + sea.pull * (levelP - levelQ) / 8;
        if (sea.kind != 3) f += side.upper() ? sea.windY : sea.windX;
        f = f - f / sea.drag;
        if (f > 0 && sea.water[side.fromX][side.fromY] == 0) return 0;
        if (f < 0 && sea.water[side.toX][side.toY] == 0) return 0;
        if (f > 0 && !(sea.bottom[side.toX][side.toY] < levelP)) return 0;
        if (f < 0 && !(sea.bottom[side.fromX][side.fromY] < levelQ)) return 0;
        return f;
    }

    private static void carry(Sea sea, long[][] water, long[][][] stuff, int x, int y, int toX, int toY, long q) {
        water[x][y] -= q;
        water[toX][toY] += q;
        for (int k = 0; k < 3; k++) {
            long along = sea.stuff[k][x][y] * q / sea.water[x][y];
            stuff[k][x][y] -= along;
            stuff[k][toX][toY] += along;
        }
    }

    private boolean stepAll(int b) {
        Sea sea = seas[b];
        if (!advance(sea)) return false;
        for (Floater boat : boats) if (boat != null && boat.board == b) drift(sea, boat);
        sea.steps++;
        for (Floater g : gauges) {
            if (g == null || g.board != b) continue;
            g.readings.add((int) sea.levelAt(g.cell));
            g.lost.add(false);
            if (g.readings.size() > 48) {
                g.readings.remove(0);
                g.lost.remove(0);
            }
        }
        return true;
    }

    private static void drift(Sea sea, Floater boat) {
        int x = boat.cell % sea.w;
        int y = boat.cell / sea.w;
        int[][] ways = {{1, 0}, {0, 1}, {-1, 0}, {0, -1}};
        long greatest = 0;
        int to = boat.cell;
        for (int[] way : ways) {
            for (Side side : sea.sides.values()) {
                boolean ahead = side.fromX == x && side.fromY == y && side.toX == x + way[0] && side.toY == y + way[1];
                boolean back = side.toX == x && side.toY == y && side.fromX == x + way[0] && side.fromY == y + way[1];
                long away = ahead ? side.flow : back ? -side.flow : 0;
                if (away > greatest) {
                    greatest = away;
                    to = (y + way[1]) * sea.w + x + way[0];
                }
            }
        }
        if (greatest >= boat.draught) boat.cell = to;
    }

    private int step(int b, int n) {
        seaOf(b, out(n, 0, 200));
        for (int i = 0; i < n; i++) if (!stepAll(b)) return i;
        return n;
    }

    private int told(int b, int what) {
        return tell(seaOf(b, out(what, 0, 10)).tells(what));
    }

    private int mark(int b, int kind) {
        Sea sea = seaOf(b, out(kind, 1, 3));
        find(kind == 1 ? !sea.tidal() : sea.kind != kind, 3);
        if (kind == 2) return tell(sea.all(sea.rest));
        if (kind == 3) return tell((long) sea.w * sea.h - sea.tells(10));
        Long tide = tideOf(sea);
        return tide == null ? -9 : tell(tide);
    }

    private int keep(int b, int to) {
        Sea sea = seaOf(b, out(to, 0, 5) || b == to);
        state(seas[to] != null && sea.within(seas[to]));
        remove(to);
        seas[to] = sea.again(sea.kind == 2 ? 0 : sea.kind);
        return sea.w * sea.h;
    }

    private int mirror(int b) {
        Sea sea = seaOf(b, false);
        find(sea.kind == 2, 3);
        for (Sea other : seas) state(other != null && other.on == sea);
        Sea as = sea.again(sea.kind);
        for (int x = 0; x < sea.w; x++) {
            sea.bottom[x] = as.bottom[sea.w - 1 - x];
            sea.water[x] = as.water[sea.w - 1 - x];
            for (int k = 0; k < 3; k++) sea.stuff[k][x] = as.stuff[k][sea.w - 1 - x];
        }
        for (Side side : sea.sides.values()) {
            int x = side.upper() ? sea.w - 1 - side.fromX : sea.w - 1 - side.toX;
            Side from = as.sides.get(2 * (side.fromY * sea.w + x) + (side.upper() ? 1 : 0));
            side.flow = side.upper() ? from.flow : -from.flow;
            side.shut = from.shut;
        }
        sea.windX = -sea.windX;
        for (long[] r : sea.rivers) r[0] = sea.w - 1 - r[0];
        for (int k = 0; k < 8; k++) {
            turn(sea, boats[k], b);
            turn(sea, gauges[k], b);
        }
        return 1;
    }

    private static void turn(Sea sea, Floater f, int b) {
        if (f != null && f.board == b) f.cell = f.cell / sea.w * sea.w + sea.w - 1 - f.cell % sea.w;
    }

    // ---- boats, gauges, nests

    private int boat(int k, int b, int cell, int draught) {
        seaOf(b, cell, out(k, 0, 7) || out(draught, 1, 1000));
        int was = boats[k] == null ? 0 : 1;
        boats[k] = new Floater();
        boats[k].board = b;
        boats[k].cell = cell;
        boats[k].draught = draught;
        return was;
    }

    private int where(int k) {
        bad(out(k, 0, 7));
        return boats[k] == null ? -9 : boats[k].cell;
    }

    private int gauge(int g, int b, int cell) {
        seaOf(b, cell, out(g, 0, 7));
        int was = gauges[g] == null ? 0 : 1;
        gauges[g] = new Floater();
        gauges[g].board = b;
        gauges[g].cell = cell;
        return was;
    }

    private int reading(int g, int i) {
        bad(out(g, 0, 7));
        if (gauges[g] == null || out(i, 0, gauges[g].readings.size() - 1)) return -9;
        int at = gauges[g].readings.size() - 1 - i;
        return gauges[g].lost.get(at) ? -9 : tell(gauges[g].readings.get(at));
    }

    private int lose(int g, int i) {
        bad(out(g, 0, 7));
        state(gauges[g] == null || out(i, 0, gauges[g].readings.size() - 1));
        int at = gauges[g].readings.size() - 1 - i;
        state(gauges[g].lost.get(at));
        gauges[g].lost.set(at, true);
        return 1;
    }

    private long wave(int g, int p, int shift) {
        long sum = 0;
        for (int i = 0; i < gauges[g].readings.size(); i++) {
            long level = gauges[g].lost.get(i) ? 0 : gauges[g].readings.get(i);
            sum += (i + shift) % p < p / 2 ? level : -level;
        }
        return sum;
    }

    private void canHear(int g) {
        state(gauges[g] == null);
        find(!gauges[g].lost.contains(false), 4);
    }

    private int tone(int g, int p) {
        bad(out(g, 0, 7) || out(p, 4, 48) || p % 4 != 0);
        canHear(g);
        c = wave(g, p, 0);
        s = wave(g, p, p / 4);
        strength = c * c + s * s;
        toned = true;
        return 1;
    }

    private int theTone(int g) {
        bad(out(g, 0, 7));
        canHear(g);
        int best = 48;
        for (int p = 44; p >= 4; p -= 4) if (power(g, p) >= power(g, best)) best = p;
        return best;
    }

    private long power(int g, int p) {
        return wave(g, p, 0) * wave(g, p, 0) + wave(g, p, p / 4) * wave(g, p, p / 4);
    }

    private int part(boolean sine) {
        state(!toned);
        return tell(sine ? s : c);
    }

    private int nest(int n, int b, int x, int y, int w, int h) {
        Sea sea = seaOf(b, out(n, 0, 5) || n == b || out(w, 1, 4) || out(h, 1, 3) || x < 0 || y < 0);
        bad((long) x + w > sea.w || (long) y + h > sea.h);
        state(seas[n] != null && sea.within(seas[n]));
        remove(n);
        Sea fine = new Sea(2, 2 * w, 2 * h);
        fine.on = sea;
        fine.onX = x;
        fine.onY = y;
        fine.mark = new long[w][h];
        fine.rest = new long[w][h];
        for (int fx = 0; fx < 2 * w; fx++) {
            for (int fy = 0; fy < 2 * h; fy++) {
                fine.bottom[fx][fy] = sea.bottom[x + fx / 2][y + fy / 2];
                fine.water[fx][fy] = sea.water[x + fx / 2][y + fy / 2];
                fine.mark[fx / 2][fy / 2] = sea.water[x + fx / 2][y + fy / 2];
            }
        }
        seas[n] = fine;
        return 4 * w * h;
    }

    private Sea nestOf(int n) {
        Sea fine = seaOf(n, false);
        find(fine.kind != 2, 3);
        return fine;
    }

    private int up(int n) {
        Sea fine = nestOf(n);
        long before = fine.on.all(fine.on.water);
        for (int x = 0; x < fine.w / 2; x++) {
            for (int y = 0; y < fine.h / 2; y++) {
                long sum = fine.rest[x][y];
                for (int i = 0; i < 4; i++) sum += fine.water[2 * x + i % 2][2 * y + i / 2];
                long water = sum <= 0 ? 0 : Math.min(100000, sum / 4);
                fine.on.water[fine.onX + x][fine.onY + y] = water;
                fine.mark[x][y] = water;
                fine.rest[x][y] = sum - 4 * water;
            }
        }
        return tell(fine.on.all(fine.on.water) - before);
    }

    private int down(int n) {
        Sea fine = nestOf(n);
        long before = fine.all(fine.water);
        for (int x = 0; x < fine.w / 2; x++) {
            for (int y = 0; y < fine.h / 2; y++) {
                long water = fine.on.water[fine.onX + x][fine.onY + y];
                long[] four = new long[4];
                long d = water - fine.mark[x][y];
                for (int i = 0; i < 4; i++) four[i] = fine.water[2 * x + i % 2][2 * y + i / 2] + d;
                for (int i = 0; i < 4; i++) {
                    if (four[i] >= 0) continue;
                    long lacks = -four[i];
                    four[i] = 0;
                    for (int j = i + 1; j < i + 4; j++) {
                        if (four[j % 4] <= 0) continue;
                        long taken = Math.min(four[j % 4], lacks);
                        four[j % 4] -= taken;
                        lacks -= taken;
                    }
                    fine.rest[x][y] -= lacks;
                }
                for (int i = 0; i < 4; i++) {
                    if (four[i] > 100000) fine.rest[x][y] += four[i] - 100000;
                    fine.water[2 * x + i % 2][2 * y + i / 2] = Math.min(100000, four[i]);
                }
                fine.mark[x][y] = water;
            }
        }
        return tell(fine.all(fine.water) - before);
    }

    // ---- fits, worlds

    /** The MISFIT by PULL, null where there is none. */
    private Long[] misfits(int b, int cell, int r) {
        Long[] misfits = new Long[9];
        for (int pull = 1; pull <= 8; pull++) {
            Sea sea = seas[b].again(seas[b].kind);
            sea.pull = pull;
            long sum = 0;
            boolean done = true;
            for (int i = 0; i < rows[r].length && done; i++) {
                done = advance(sea);
                sea.steps++;
                if (rows[r][i] != -9) sum += Math.abs(sea.levelAt(cell) - rows[r][i]);
            }
            if (done) misfits[pull] = sum;
        }
        return misfits;
    }

    private void canFit(int b, int cell, int r, boolean isBad) {
        bad(isBad || out(b, 0, 5) || out(r, 0, 5));
        find(seas[b] == null || rows[r] == null, 1);
        find(!seas[b].has(cell), 2);
        find(known(r).isEmpty(), 4);
    }

    private static int best(Long[] misfits) {
        int best = 0;
        for (int pull = 8; pull >= 1; pull--) {
            if (misfits[pull] != null && (best == 0 || misfits[pull] <= misfits[best])) best = pull;
        }
        return best;
    }

    private int fit(int b, int cell, int r) {
        canFit(b, cell, r, false);
        Long[] misfits = misfits(b, cell, r);
        int best = best(misfits);
        if (best == 0) return -9;
        tell(misfits[best]);
        return best;
    }

    private int ends(int b, int cell, int r, int more) {
        canFit(b, cell, r, out(more, 0, 100000));
        Long[] misfits = misfits(b, cell, r);
        int best = best(misfits);
        if (best == 0) return -9;
        List<Integer> within = new ArrayList<>();
        for (int pull = 1; pull <= 8; pull++) {
            if (misfits[pull] != null && misfits[pull] <= misfits[best] + more) within.add(pull);
        }
        return 10 * within.get(0) + within.get(within.size() - 1);
    }

    private void obey(Sea sea, Item item) {
        int v = item.number;
        if (item.letter == 'W') sea.windX = v;
        if (item.letter == 'V') sea.windY = v;
        if (item.letter == 'P') sea.pull = v;
        if (item.letter == 'T' && sea.tidal()) sea.more = v;
        if (item.letter == 'G' && sea.sides.containsKey(v)) sea.sides.get(v).shut = !sea.sides.get(v).shut;
        if (item.letter == 'R') for (long[] r : sea.rivers) r[2] = Math.min(1000, r[2] * v / 100);
    }

    private int play(int b, int t) {
        bad(out(b, 0, 5) || out(t, 0, 5));
        find(seas[b] == null || texts[t] == null, 1);
        List<Item> items = new ArrayList<>();
        state(items(texts[t], items) != -9);
        int done = 0;
        for (Item item : items) {
            obey(seas[b], item);
            for (int i = 0; item.letter == 'S' && i < item.number; i++) {
                if (!stepAll(b)) return done;
                done++;
            }
        }
        return done;
    }

    private int world(int t, int weight) {
        bad(out(t, 0, 5) || out(weight, 0, 99));
        full(worlds.size() == 8);
        find(texts[t] == null, 1);
        state(items(texts[t], new ArrayList<>()) != -9);
        worlds.add(texts[t].clone());
        weights.add(weight);
        return worlds.size() - 1;
    }

    private int forget() {
        int were = worlds.size();
        worlds.clear();
        weights.clear();
        return were;
    }

    private long alarmed(int b, int cell, int level, int set) {
        long sum = 0;
        for (int k = 0; k < worlds.size(); k++) {
            Sea sea = seas[b].again(seas[b].kind);
            for (int i = 0; i < sea.posts.size(); i++) {
                if ((set & 1 << i) != 0) sea.sides.get(sea.posts.get(i)).shut = true;
            }
            List<Item> items = new ArrayList<>();
            items(worlds.get(k), items);
            boolean comes = false;
            boolean can = true;
            for (Item item : items) {
                obey(sea, item);
                for (int i = 0; item.letter == 'S' && i < item.number && can; i++) {
                    can = advance(sea);
                    sea.steps++;
                    if (can && sea.levelAt(cell) >= level) comes = true;
                }
            }
            if (comes) sum += weights.get(k);
        }
        return sum;
    }

    private long canAlarm(int b, int cell, int level) {
        seaOf(b, cell, out(level, -1000, 101000));
        long all = 0;
        for (int weight : weights) all += weight;
        find(all == 0, 4);
        return all;
    }

    private void fraction(long above, long below) {
        long by = java.math.BigInteger.valueOf(above).gcd(java.math.BigInteger.valueOf(below)).longValue();
        upper = above / by;
        lower = below / by;
    }

    private int alarm(int b, int cell, int level) {
        long all = canAlarm(b, cell, level);
        fraction(alarmed(b, cell, level, 0), all);
        return 1;
    }

    private int post(int b, int face) {
        sideOf(b, face);
        full(seas[b].posts.size() == 4);
        seas[b].posts.add(face);
        return seas[b].posts.size();
    }

    private int gates(int b, int cell, int level) {
        long all = canAlarm(b, cell, level);
        List<long[]> sets = new ArrayList<>();
        for (int set = 0; set < 1 << seas[b].posts.size(); set++) {
            sets.add(new long[] {alarmed(b, cell, level, set), Integer.bitCount(set), set});
        }
        sets.sort(java.util.Arrays::compare);
        fraction(sets.get(0)[0], all);
        return (int) sets.get(0)[2];
    }

    // ---- what is told

    private int count(int what) {
        bad(out(what, 0, 5));
        Object[][] all = {rows, texts, seas, boats, gauges, worlds.toArray()};
        int count = 0;
        for (Object one : all[what]) if (one != null) count++;
        return count;
    }

    private int findings(int f) {
        bad(out(f, 1, 5));
        return found[f];
    }

    long digest() {
        List<Long> v = new ArrayList<>();
        for (Sea sea : seas) {
            if (sea == null) v.add(-1L);
            else digest(sea, v);
        }
        for (Floater boat : boats) {
            v.add(boat == null ? -1L : boat.board);
            if (boat == null) continue;
            v.add((long) boat.cell);
            v.add((long) boat.draught);
        }
        for (Floater g : gauges) {
            v.add(g == null ? -1L : g.board);
            if (g == null) continue;
            v.add((long) g.cell);
            v.add((long) g.readings.size());
            for (int i = 0; i < g.readings.size(); i++) v.add(g.lost.get(i) ? -9L : g.readings.get(i));
        }
        for (int[] row : rows) {
            v.add(row == null ? -1L : row.length);
            if (row != null) for (int place : row) v.add((long) place);
        }
        for (byte[] text : texts) {
            v.add(text == null ? -1L : text.length);
            if (text != null) for (byte place : text) v.add((long) place);
        }
        long h = 17;
        for (long one : v) h = 31 * h + one;
        return h;
    }

    private static void digest(Sea sea, List<Long> v) {
        for (int what = 0; what <= 10; what++) v.add(sea.tells(what));
        for (int cell = 0; cell < sea.w * sea.h; cell++) {
            int x = cell % sea.w;
            int y = cell / sea.w;
            v.add(sea.bottom[x][y]);
            v.add(sea.water[x][y]);
            for (int k = 0; k < 3; k++) v.add(sea.stuff[k][x][y]);
        }
        for (int n = 0; n < 2 * sea.w * sea.h; n++) {
            Side side = sea.sides.get(n);
            if (side == null) continue;
            v.add(side.flow);
            v.add(side.shut ? 1L : 0L);
        }
    }
}
