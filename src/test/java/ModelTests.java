import java.util.Random;

/** Runs of drawn calls (always the same ones), each asked of the class and of PlainModel. */
public final class ModelTests {
    private static final int CALLS = 512;
    private static final int[] ODD = {-1, -2, 4, 6, 7, 10, 60, 61, 99, 100, 101, 255, Integer.MAX_VALUE, Integer.MIN_VALUE,
        Integer.MAX_VALUE - 1, Integer.MIN_VALUE + 1, 1 << 30, -(1 << 30), Integer.MIN_VALUE + 20};

    private final Random random;
    private final int run;
    private final SandKeepers x = new SandKeepers();
    private final PlainModel model = new PlainModel();
    private int calls = 0;

    private ModelTests(int run) {
        this.run = run;
        this.random = new Random(run);
    }

    public static void main(String[] args) {
        int runs = args.length > 0 ? Integer.parseInt(args[0]) : 600;
        for (int run = 1; run <= runs; run++) {
            new ModelTests(run).play();
        }
        Desk.end();
    }

    private void play() {
        if (random.nextInt(8) > 0) {
            seeDrawn();
        }
        if (random.nextInt(10) == 0) {
            goFar();
        }
        while (calls < CALLS - 60) {
            int draw = random.nextInt(100);
            if (draw == 0) {
                seeDrawn();
            } else if (draw < 4) {
                tellChronicle();
            } else if (draw < 6) {
                findDrawn();
            } else if (draw < 10) {
                readTrue();
            } else {
                draw();
            }
        }
    }

    private void due(String call, long got, long want) {
        calls++;
        Desk.due("run " + run + " call " + calls + ": " + call, got, want);
    }

    /** A number of 0 .. most, now and then one that is not. */
    private int some(int most) {
        int draw = random.nextInt(40);
        if (draw == 0) {
            return ODD[random.nextInt(ODD.length)];
        }
        if (draw == 1) {
            return most + 1;
        }
        return draw == 2 ? -1 : random.nextInt(most + 1);
    }

    private int house() {
        int houses = model.many(0);
        return some(houses == 0 ? 5 : houses - 1);
    }

    private void sheet(int k, int lane, int n) {
        due("sheet(" + k + ", " + lane + ", " + n + ")", x.sheet(k, lane, n), model.sheet(k, lane, n));
    }

    private void put(int k, int i, int v) {
        due("put(" + k + ", " + i + ", " + v + ")", x.put(k, i, v), model.put(k, i, v));
    }

    private void seeDrawn() {
        int houses = 2 + random.nextInt(5);
        StringBuilder text = new StringBuilder("s").append(houses);
        for (int k = 0; k < houses; k++) {
            int sand = 1 + random.nextInt(99);
            text.append(";").append("pwc".charAt(random.nextInt(3))).append(sand / 10).append(sand % 10)
                .append(random.nextInt(3) == 0 ? 0 : random.nextInt(10)).append(random.nextInt(4)).append(random.nextInt(houses));
        }
        if (random.nextInt(6) == 0) {
            text.setCharAt(random.nextInt(text.length()), "s;pwc0123456789?".charAt(random.nextInt(16)));
        }
        int lane = random.nextInt(3);
        int k = random.nextInt(4);
        int i = random.nextInt(4);
        int beyond = random.nextInt(4);
        sheet(k, lane, i + text.length() + beyond);
        for (int c = 0; c < text.length(); c++) {
            put(k, i + c, text.charAt(c));
        }
        int n = text.length() + (random.nextInt(6) == 0 ? random.nextInt(8) - 6 : 0);
        due("see(" + k + ", " + lane + ", " + i + ", " + n + ")", x.see(k, lane, i, n), model.see(k, lane, i, n));
    }

    /** Near to YEAR 999, with ones that are still ALIVE: their NECKS are 0, their HOUSES cold, some are STIFF. */
    private void goFar() {
        for (int k = 0; k < model.many(0); k++) {
            if (random.nextInt(3) > 0) {
                due("chafe(" + k + ", 0)", x.chafe(k, 0), model.chafe(k, 0));
                due("warm(" + k + ", 0)", x.warm(k, 0), model.warm(k, 0));
            }
            if (random.nextInt(3) == 0) {
                due("lay(" + k + ")", x.lay(k), model.act(k, 0));
            }
        }
        for (int decade = 0; decade < 10; decade++) {
            due("go(99)", x.go(99), model.go(99));
        }
    }

    private void tellChronicle() {
        int pairs = random.nextInt(7);
        int k = random.nextInt(4);
        int lane = random.nextInt(3);
        int i = random.nextInt(3);
        sheet(k, lane, i + 2 * pairs);
        for (int p = 0; p < pairs; p++) {
            int act = random.nextInt(30) == 0 ? random.nextInt(12) : new int[] {0, 1, 2, 9}[random.nextInt(4)];
            put(k, i + 2 * p, act == 9 ? some(random.nextInt(3) == 0 ? 9 : 2) : house());
            put(k, i + 2 * p + 1, act);
        }
        for (int n = 0; n <= pairs; n++) {
            int what = random.nextInt(4);
            chronicle(k, lane, i, n, what);
            chronicle(k, lane, i, n, 10 * (1 + random.nextInt(2)) + random.nextInt(6));
        }
    }

    private void chronicle(int k, int lane, int i, int n, int what) {
        due("chronicle(" + k + ", " + lane + ", " + i + ", " + n + ", " + what + ")",
            x.chronicle(k, lane, i, n, what), model.chronicle(k, lane, i, n, what));
    }

    private void findDrawn() {
        int houses = Math.max(1, model.many(0));
        int one = random.nextInt(houses);
        int n = random.nextInt(6);
        int sand = Math.max(0, model.ofGlass(one, 1));
        int rate = model.ofGlass(one, 6) == 1 ? 0 : Math.max(0, model.ofGlass(one, 5));
        sheet(1, 0, n);
        for (int c = 0; c < n; c++) {
            put(1, c, Math.max(0, sand - c * rate) + (random.nextInt(20) == 0 ? 1 : 0));
        }
        due("found(1, 0, 0, " + n + ")", x.found(1, 0, 0, n), model.found(1, 0, 0, n));
    }

    /** A READING that is so, or would be with another NECK, kind or KEEPER. */
    private void readTrue() {
        int k = random.nextInt(Math.max(1, model.many(0)));
        int y = random.nextInt(3) == 0 ? random.nextInt(99) : random.nextInt(5);
        int rate = model.ofGlass(k, 6) == 1 ? 0 : model.ofGlass(k, 5) + random.nextInt(4) / 3;
        int v = Math.max(0, model.ofGlass(k, 1) - y * rate);
        due("reading(" + k + ", " + y + ", " + v + ")", x.reading(k, y, v), model.reading(k, y, v));
        int other = house();
        due("necks(" + other + ")", x.necks(other), model.fitting(other, 0));
        due("kinds(" + other + ")", x.kinds(other), model.fitting(other, 1));
        due("keepers(" + other + ")", x.keepers(other), model.fitting(other, 2));
        due("necks(" + k + ")", x.necks(k), model.fitting(k, 0));
        due("kinds(" + k + ")", x.kinds(k), model.fitting(k, 1));
        due("keepers(" + k + ")", x.keepers(k), model.fitting(k, 2));
        if (random.nextInt(3) == 0) {
            int back = random.nextInt(3);
            due("back(" + back + ")", x.back(back), model.back(back));
        }
    }

    private void draw() {
        int draw = random.nextInt(44);
        if (draw < 22) {
            drawOfGlasses(draw);
        } else {
            drawOfSheets(draw);
        }
        if (random.nextInt(4) == 0) {
            due("fault()", x.fault(), model.fault());
        }
    }

    private void drawOfGlasses(int draw) {
        int k = house();
        int h = house();
        switch (draw) {
            case 0: { int w = some(7); due("ofGlass(" + k + ", " + w + ")", x.ofGlass(k, w), model.ofGlass(k, w)); break; }
            case 1: due("keeps(" + k + ")", x.keeps(k), model.keeps(k)); break;
            case 2: { int v = some(9); due("chafe(" + k + ", " + v + ")", x.chafe(k, v), model.chafe(k, v)); break; }
            case 3: { int v = some(3); due("warm(" + k + ", " + v + ")", x.warm(k, v), model.warm(k, v)); break; }
            case 4: due("give(" + k + ", " + h + ")", x.give(k, h), model.give(k, h)); break;
            case 5: { int w = some(1); due("alive(" + w + ")", x.alive(w), model.alive(w)); break; }
            case 6: due("lay(" + k + ")", x.lay(k), model.act(k, 0)); break;
            case 7: due("raise(" + k + ")", x.raise(k), model.act(k, 1)); break;
            case 8: due("turn(" + k + ")", x.turn(k), model.act(k, 2)); break;
            case 9: { int n = some(random.nextInt(20) == 0 ? 99 : 2); due("go(" + n + ")", x.go(n), model.go(n)); break; }
            case 10: due("life(" + k + ")", x.life(k), model.life(k)); break;
            case 11: due("ring(" + k + ")", x.ring(k), model.ring(k)); break;
            case 12: due("reach(" + k + ", " + h + ")", x.reach(k, h), model.reach(k, h)); break;
            case 13: { int w = some(6) - 1; due("keeping(" + w + ")", x.keeping(w), model.keeping(w)); break; }
            case 14: { int w = some(2); due("trade(" + w + ")", x.trade(w), model.trade(w)); break; }
            case 15: { int w = some(1); due("first(" + w + ")", x.first(w), model.first(w)); break; }
            case 16: {
                int y = some(99);
                int v = some(99);
                if (random.nextInt(5) == 0) {
                    due("reading(" + k + ", " + y + ", " + v + ")", x.reading(k, y, v), model.reading(k, y, v));
                }
                break;
            }
            case 17: { int b = some(8); due("back(" + b + ")", x.back(b), model.back(b)); break; }
            case 18: due("necks(" + k + ")", x.necks(k), model.fitting(k, 0)); break;
            case 19: due("kinds(" + k + ")", x.kinds(k), model.fitting(k, 1)); break;
            case 20: due("keepers(" + k + ")", x.keepers(k), model.fitting(k, 2)); break;
            default: {
                int y = some(random.nextBoolean() ? 99 : 12);
                int w = some(1);
                due("odds(" + k + ", " + y + ", " + w + ")", x.odds(k, y, w), model.odds(k, y, w));
                break;
            }
        }
    }

    private void drawOfSheets(int draw) {
        int k = house();
        int s = some(3);
        int t = some(3);
        int lane = some(2);
        int i = some(random.nextBoolean() ? 60 : 8);
        int j = some(random.nextBoolean() ? 60 : 8);
        int n = some(random.nextInt(4) == 0 ? 41 : 6);
        switch (draw) {
            case 22: case 23: case 24: sheet(s, lane, i); break;
            case 25: due("lose(" + s + ")", x.lose(s), model.lose(s)); break;
            case 26: case 27: put(s, i, random.nextInt(3) == 0 ? random.nextInt() : some(120)); break;
            case 28: case 29:
                due("cell(" + s + ", " + i + ", " + lane + ")", x.cell(s, i, lane), model.cell(s, i, lane));
                break;
            case 30: case 31: case 32: case 33:
                due("copy(" + s + ", " + i + ", " + t + ", " + j + ", " + n + ")", x.copy(s, i, t, j, n), model.copy(s, i, t, j, n));
                break;
            case 34: due("tell(" + k + ")", x.tell(k), model.tell(k)); break;
            case 35: due("dust(" + k + ")", x.dust(k), model.dust(k)); break;
            case 36: { int w = some(2); due("as(" + k + ", " + w + ")", x.as(k, w), model.as(k, w)); break; }
            case 37: due("trace()", x.trace(), model.trace()); break;
            case 38: { int w = some(3); due("many(" + w + ")", x.many(w), model.many(w)); break; }
            case 39: case 40:
                due("see(" + s + ", " + lane + ", " + i + ", " + n + ")", x.see(s, lane, i, n), model.see(s, lane, i, n));
                break;
            case 41: case 42: chronicle(s, lane, i, n, some(25)); break;
            default:
                due("found(" + s + ", " + lane + ", " + i + ", " + n + ")", x.found(s, lane, i, n), model.found(s, lane, i, n));
                break;
        }
    }
}
