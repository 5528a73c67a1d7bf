import java.lang.reflect.InvocationTargetException;
import java.lang.reflect.Method;
import java.util.ArrayList;
import java.util.HashMap;
import java.util.List;
import java.util.Map;
import java.util.Random;

/**
 * All promises: runs of drawn calls, always the same ones, on the class and on the Model alike. What later calls than
 * the 512th of an object answer is free: half of the runs look at all behind each call, the others go on for longer.
 */
public final class RandomRunsTest {
    private static final int RUNS = 2000, CALLS = 512, CALLS_AT_LAST = 17;
    private static final Map<String, Method> METHODS = new HashMap<>();

    private final Random random;
    private final SeaCells x = new SeaCells();
    private final Model model = new Model();
    private final List<String> told = new ArrayList<>();
    private final boolean deep;
    private final boolean close;
    private final int places;
    private int calls;
    private final Map<String, Integer> answers;
    private boolean same = true;

    private RandomRunsTest(int run, Map<String, Integer> answers) {
        random = new Random(run);
        deep = run % 5 == 4;
        close = run % 2 == 1;
        places = 1 + run % 6;
        this.answers = answers;
    }

    public static void main(String[] args) {
        for (Method m : SeaCells.class.getMethods()) METHODS.put(m.getName(), m);
        Map<String, Integer> answers = new HashMap<>();
        int wrong = 0;
        for (int run = 0; run < RUNS; run++) {
            RandomRunsTest test = new RandomRunsTest(run, answers);
            if (test.goes()) continue;
            wrong++;
            System.out.println("run " + run + ": " + test.told.get(test.told.size() - 1));
        }
        wrong += missing(answers);
        System.out.println(wrong == 0 ? RUNS + " runs are as due" : wrong + " runs are not as due");
        if (wrong != 0) System.exit(1);
    }

    /** How many calls never came to one of their answers: then the runs would show too little. */
    private static int missing(Map<String, Integer> answers) {
        String[] due = {"row -1 -3 +", "lay -1 -3 +", "tear -1 -3 +", "copy -1 -3 +", "mean -1 -3 +", "text -1 -3 +",
            "put -1 -3 +", "burn -1 -3 +", "fault -1 -3 -9 +", "board -1 +", "drop -1 -3 +", "bottom -1 -3 +",
            "water -1 -3 +", "spill -1 -3 +", "cell -1 -3 +", "flow -1 -3 +", "gate -1 -3 +", "law -1 -3 +",
            "wind -1 -3 +", "river -1 -2 -3 +", "tide -1 -3 +", "step -1 -3 +", "told -1 -3 +", "mark -1 -3 -9 +",
            "keep -1 -3 -4 +", "mirror -1 -3 -4 +", "boat -1 -3 +", "where -1 -9 +", "gauge -1 -3 +",
            "reading -1 -9 +", "lose -1 -4 +", "tone -1 -3 -4 +", "theTone -1 -3 -4 +", "part -4 +",
            "nest -1 -3 -4 +", "up -1 -3 +", "down -1 -3 +", "fit -1 -3 -9 +", "ends -1 -3 -9 +", "play -1 -3 -4 +",
            "world -1 -2 -3 -4 +", "forget +", "alarm -1 -3 +", "post -1 -2 -3 +", "gates -1 -3 +", "count -1 +",
            "findings -1 +"};
        int missing = 0;
        for (String line : due) {
            String[] parts = line.split(" ");
            for (int i = 1; i < parts.length; i++) {
                if (answers.containsKey(parts[0] + " " + parts[i])) continue;
                missing++;
                System.out.println("no " + parts[0] + " was answered with " + parts[i]);
            }
        }
        return missing;
    }

    private boolean goes() {
        while (same && hasCallsLeft()) draw();
        for (int query = 0; query < CALLS_AT_LAST; query++) ask(query);
        return same;
    }

    /** For one call more, and what is looked at behind it. */
    private boolean hasCallsLeft() {
        return calls + 3 <= CALLS - CALLS_AT_LAST;
    }

    // ---- numbers

    private boolean rarely(int one) {
        return random.nextInt(one) == 0;
    }

    /** From least to greatest, at times an end of these, seldom one beyond. */
    private int num(int least, int greatest) {
        if (rarely(150)) return rarely(2) ? Integer.MIN_VALUE : Integer.MAX_VALUE;
        if (rarely(40)) return rarely(2) ? least - 1 : greatest + 1;
        if (rarely(12)) return rarely(2) ? least : greatest;
        return least + random.nextInt(greatest - least + 1);
    }

    private int place() {
        return rarely(15) ? num(0, 5) : num(0, places - 1);
    }

    private int boardPlace() {
        int b = place();
        for (int i = 0; i < 4 && !isThere(b); i++) b = place();
        return b;
    }

    private boolean isThere(int b) {
        return b >= 0 && b < 6 && model.seas[b] != null;
    }

    private int cellOf(int b) {
        return isThere(b) ? num(0, model.seas[b].w * model.seas[b].h - 1) : num(0, 47);
    }

    private int sideOf(int b) {
        return isThere(b) ? num(0, 2 * model.seas[b].w * model.seas[b].h - 1) : num(0, 95);
    }

    private int waterDrawn() {
        if (deep && rarely(3)) return num(99900, 100000);
        if (rarely(60)) return num(0, 100000);
        return rarely(4) ? 0 : num(0, 300);
    }

    private int levelDrawn() {
        if (rarely(20)) return num(-1000, 101000);
        return num(-50, 400);
    }

    private int rowPlace() {
        if (rarely(6)) return -9;
        if (deep && rarely(10)) return num(-100000, 100000);
        return num(-50, 300);
    }

    // ---- calls

    private void draw() {
        int kind = random.nextInt(100);
        if (kind < 8) drawRows();
        else if (kind < 13) drawTexts();
        else if (kind < 30) drawCells();
        else if (kind < 45) drawBoards();
        else if (kind < 63) drawSteps();
        else if (kind < 80) drawFloaters();
        else if (kind < 90) drawNests();
        else drawWorlds();
    }

    private void drawRows() {
        int r = place();
        switch (random.nextInt(9)) {
            case 0: call("row", r, rarely(6) ? -1 : num(0, 48)); break;
            case 1: call("row", r, num(1, 6)); break;
            case 2: if (rarely(6)) call("tear", r); break;
            case 3: call("mean", r); break;
            case 4: call("copy", r, num(0, 5), place(), num(0, 5), num(-1, 6)); break;
            case 5: layRow(r); break;
            default: call("lay", r, num(0, 6), rarely(5) ? num(-100000, 100000) : rowPlace()); break;
        }
    }

    private void layRow(int r) {
        call("row", r, 1 + random.nextInt(8));
        for (int i = 0; i < 8; i++) call("lay", r, i, rowPlace());
    }

    private void drawTexts() {
        int t = place();
        switch (random.nextInt(8)) {
            case 0: call("text", t, num(-1, 40)); break;
            case 1: if (rarely(4)) call("burn", t); break;
            case 2: call("put", t, num(0, 20), rarely(3) ? random.nextInt() : num(-128, 127)); break;
            case 3: call("put", t, num(0, 20), "WVSGTPR 0123456789-".charAt(random.nextInt(19))); break;
            default: write(t); break;
        }
        call("fault", t);
    }

    private void write(int t) {
        StringBuilder text = new StringBuilder();
        int items = random.nextInt(7);
        for (int i = 0; i < items; i++) {
            while (rarely(3)) text.append(' ');
            char letter = "WVSSSGGTPR".charAt(random.nextInt(10));
            text.append(rarely(100) ? 'X' : letter).append(numberOf(letter));
        }
        if (text.length() > 40) text.setLength(40);
        call("text", t, text.length());
        for (int i = 0; i < text.length(); i++) call("put", t, i, text.charAt(i));
    }

    private int numberOf(char letter) {
        if (rarely(80)) return random.nextInt(20000) - 5000;
        switch (letter) {
            case 'W': case 'V': return random.nextInt(101) - 50;
            case 'S': return random.nextInt(9);
            case 'G': return random.nextInt(rarely(4) ? 10000 : 24);
            case 'T': return random.nextInt(401) - 200;
            case 'P': return 1 + random.nextInt(8);
            default: return random.nextInt(rarely(2) ? 1001 : 200);
        }
    }

    private void drawCells() {
        int b = boardPlace();
        int cell = cellOf(b);
        switch (random.nextInt(8)) {
            case 0: case 1: call("bottom", b, cell, rarely(8) ? num(-1000, 1000) : num(-40, 120)); break;
            case 2: call("spill", b, cell, num(0, 2), rarely(3) ? num(0, 100000) : num(0, 200)); break;
            case 3: call("cell", b, cell, num(0, 5)); break;
            case 4: call("flow", b, sideOf(b)); break;
            default: call("water", b, cell, waterDrawn()); break;
        }
    }

    private void drawBoards() {
        int b = boardPlace();
        switch (random.nextInt(16)) {
            case 0: case 1: newBoard(); break;
            case 2: if (rarely(5)) call("drop", b); break;
            case 3: call("gate", b, sideOf(b), random.nextInt(2)); break;
            case 4: call("law", b, num(1, 8), rarely(3) ? num(2, 1000) : num(2, 20)); break;
            case 5: call("wind", b, num(-50, 50), num(-50, 50)); break;
            case 6: call("river", b, cellOf(b), rarely(4) ? num(0, 1000) : num(0, 60)); break;
            case 7: case 8: call("tide", b, place(), rarely(4) ? num(-500, 500) : num(-20, 80)); break;
            case 9: call("told", b, num(0, 10)); break;
            case 10: case 11: call("mark", b, num(1, 3)); break;
            case 12: call("keep", b, place()); break;
            case 13: call("mirror", b); break;
            case 14: call("count", num(0, 5)); break;
            default: call("findings", num(1, 5)); break;
        }
    }

    private void newBoard() {
        int b = place();
        if (isThere(b) && !rarely(5)) return;
        int kind = rarely(9) ? num(0, 3) : "0113".charAt(random.nextInt(4)) - '0';
        call("board", b, kind, num(2, 8), num(1, 6));
        for (int i = 0; i < 6; i++) call("water", b, cellOf(b), waterDrawn());
    }

    private void drawSteps() {
        int b = boardPlace();
        if (rarely(40)) call("step", b, num(0, 200));
        else call("step", b, rarely(3) ? num(0, 12) : 1);
    }

    private void drawFloaters() {
        int b = boardPlace();
        int k = rarely(4) ? num(0, 7) : num(0, 2);
        switch (random.nextInt(12)) {
            case 0: call("boat", k, b, cellOf(b), rarely(3) ? num(1, 1000) : num(1, 20)); break;
            case 1: call("where", k); break;
            case 2: call("gauge", k, b, cellOf(b)); break;
            case 3: call("reading", k, num(0, 47)); break;
            case 4: call("reading", k, num(0, 6)); break;
            case 5: call("lose", k, num(0, 47)); break;
            case 6: call("lose", k, num(0, 6)); break;
            case 7: case 8: call("tone", k, rarely(12) ? num(0, 50) : 4 * num(1, 12)); break;
            case 9: call("theTone", k); break;
            default: call("part", random.nextInt(2)); break;
        }
    }

    private void drawNests() {
        int n = boardPlace();
        switch (random.nextInt(8)) {
            case 0: case 1: newNest(); break;
            case 2: case 3: case 4: exchange("up", n); break;
            default: exchange("down", n); break;
        }
    }

    private void newNest() {
        int b = boardPlace();
        int n = place();
        if (isThere(n) && rarely(2)) return;
        call("nest", n, b, num(0, 4), num(0, 3), num(1, 4), num(1, 3));
    }

    private void exchange(String way, int n) {
        for (int i = 0; i < 6 && !rarely(4); i++) {
            int k = random.nextInt(6);
            if (isThere(k) && model.seas[k].kind == 2) n = k;
        }
        if (isThere(n) && model.seas[n].kind == 2 && rarely(2)) {
            call("water", n, cellOf(n), waterDrawn());
            for (int b = 0; b < 6; b++) {
                if (model.seas[b] == model.seas[n].on) call("water", b, cellOf(b), waterDrawn());
            }
        }
        call(way, n);
    }

    private void drawWorlds() {
        int b = boardPlace();
        int cell = cellOf(b);
        switch (random.nextInt(14)) {
            case 0: case 1: call("fit", b, cell, place()); break;
            case 2: call("ends", b, cell, place(), rarely(3) ? num(0, 100000) : num(0, 60)); break;
            case 3: case 4: call("play", b, place()); break;
            case 5: case 6: case 7: call("world", place(), num(0, 99)); break;
            case 8: if (rarely(20)) call("forget"); break;
            case 9: case 10: call("alarm", b, cell, levelDrawn()); break;
            case 11: case 12: call("post", b, sideOf(b)); break;
            default: if (rarely(2)) call("gates", b, cell, levelDrawn()); break;
        }
    }

    // ---- both

    private void call(String name, int... a) {
        if (!same || !hasCallsLeft()) return;
        calls++;
        StringBuilder line = new StringBuilder(name).append('(');
        for (int i = 0; i < a.length; i++) line.append(i == 0 ? "" : ", ").append(a[i]);
        int due = model.call(name, a);
        int got = answered(name, a);
        told.add(line.append(") answered ").append(got).append(", due is ").append(due).toString());
        answers.merge(name + " " + (got >= 0 ? "+" : String.valueOf(got)), 1, Integer::sum);
        same = got == due;
        if (close) {
            ask(0);
            ask(1);
        } else if (rarely(3)) {
            ask(random.nextInt(CALLS_AT_LAST));
        }
    }

    /** One of the calls that tell what there is. */
    private void ask(int query) {
        calls++;
        if (query == 0) compare("asked()", x.asked(), model.asked);
        else if (query == 1) compare("digest()", x.digest(), model.digest());
        else if (query == 2) compare("strength()", x.strength(), model.strength);
        else if (query == 3) compare("upper()", x.upper(), model.upper);
        else if (query == 4) compare("lower()", x.lower(), model.lower);
        else if (query == 5) compare("finding()", x.finding(), model.finding);
        else if (query <= 10) compare("findings()", x.findings(query - 5), model.found[query - 5]);
        else compare("count()", x.count(query - 11), model.call("count", query - 11));
    }

    private void compare(String what, long got, long due) {
        if (got == due || !same) return;
        same = false;
        told.add(told.get(told.size() - 1) + "; then " + what + " answered " + got + ", due is " + due);
    }

    private int answered(String name, int[] a) {
        Method method = METHODS.get(name);
        Object[] as = new Object[a.length];
        Class<?>[] types = method.getParameterTypes();
        for (int i = 0; i < a.length; i++) {
            if (types[i] == boolean.class) as[i] = a[i] != 0;
            else as[i] = a[i];
        }
        try {
            return (Integer) method.invoke(x, as);
        } catch (IllegalAccessException | InvocationTargetException e) {
            throw new IllegalStateException(told.toString(), e);
        }
    }
}
