/** Promises 27 to 37: sheets, parts. */
public final class SheetTests {
    private static final long LOST = Long.MIN_VALUE;
    private static final String THREE = "s3;p20101;w20202;c20300";

    public static void main(String[] args) {
        sheet();
        lose();
        put();
        cell();
        copy();
        tell();
        dust();
        as();
        traceWraps();
        faultOfTheLatest();
        many();
        Desk.end();
    }

    private static void sheet() {
        SandKeepers x = new SandKeepers();
        Desk.due("sheet -1", x.sheet(-1, 0, 1), -1);
        Desk.due("sheet 4", x.sheet(4, 3, -1), -1);
        Desk.due("LANE -1", x.sheet(0, -1, 1), -2);
        Desk.due("LANE 3", x.sheet(0, 3, -1), -2);
        Desk.due("n 61", x.sheet(0, 0, 61), -2);
        Desk.due("fault 0", x.fault(), 0);
        Desk.due("n -1", x.sheet(0, 0, -1), -14);
        Desk.due("fault SIZE", x.fault(), 4);
        Desk.due("n least", x.sheet(0, 0, Integer.MIN_VALUE), -14);
        Desk.due("nothing yet", x.lose(0), 0);
        Desk.due("n 60", x.sheet(0, 2, 60), 1);
        Desk.due("fault 0 again", x.fault(), 0);
        for (int i = 0; i < 60; i++) {
            Desk.due("0 at first", x.cell(0, i, 2), 0);
        }
        x.put(0, 59, 7);
        x.put(0, 0, 7);
        Desk.due("a new row", x.sheet(0, 1, 1), 1);
        Desk.due("0 again", x.cell(0, 0, 1), 0);
        Desk.due("1 alone", x.cell(0, 1, 1), LOST);
        x.put(0, 0, 9);
        Desk.due("SIZE changes nothing", x.sheet(0, 1, -1), -14);
        Desk.due("as it was", x.cell(0, 0, 1), 9);
        Desk.due("n 60 again", x.sheet(0, 2, 60), 1);
        Desk.due("0 again", x.cell(0, 59, 2), 0);
        Desk.due("n 0", x.sheet(0, 0, 0), 1);
        Desk.due("it is a row", x.lose(0), 1);
    }

    private static void lose() {
        SandKeepers x = new SandKeepers();
        Desk.due("lose -1", x.lose(-1), -1);
        Desk.due("lose 4", x.lose(4), -1);
        Desk.due("lose nothing", x.lose(3), 0);
        x.sheet(3, 0, 3);
        Desk.due("another SHEET", x.lose(2), 0);
        Desk.due("lose", x.lose(3), 1);
        Desk.due("lose again", x.lose(3), 0);
        Desk.due("nothing is there", x.put(3, 0, 1), -11);
        x.lose(3);
        Desk.due("lose names no FAULT", x.fault(), 1);
    }

    private static void put() {
        SandKeepers x = new SandKeepers();
        Desk.due("put -1", x.put(-1, 0, 0), -1);
        Desk.due("put 4", x.put(4, 0, 0), -1);
        Desk.due("put on nothing", x.put(0, -1, 0), -11);
        Desk.due("fault NULL", x.fault(), 1);
        int[] values = {127, 128, -129, 255, 256, 32767, 32768, -32769, 65536, Integer.MAX_VALUE, Integer.MIN_VALUE};
        for (int lane = 0; lane < 3; lane++) {
            x.sheet(lane, lane, 3);
            for (int v : values) {
                Desk.due("put", x.put(lane, 2, v), 1);
                int want = lane == 0 ? (byte) v : lane == 1 ? (short) v : v;
                Desk.due("cut to LANE " + lane, x.cell(lane, 2, lane), want);
            }
            Desk.due("the cell ahead", x.cell(lane, 1, lane), 0);
        }
        Desk.due("fault 0", x.fault(), 0);
        Desk.due("i -1", x.put(0, -1, 0), -13);
        Desk.due("fault INDEX", x.fault(), 3);
        Desk.due("i 3", x.put(0, 3, 0), -13);
        Desk.due("i far beyond", x.put(0, Integer.MAX_VALUE, 0), -13);
        Desk.due("i least", x.put(0, Integer.MIN_VALUE, 0), -13);
    }

    private static void cell() {
        SandKeepers x = new SandKeepers();
        Desk.due("cell -1", x.cell(-1, 0, 0), LOST);
        Desk.due("nothing is no CAST", x.cell(1, -1, 2), LOST);
        Desk.due("fault NULL", x.fault(), 1);
        Desk.due("cell 4", x.cell(4, 0, 3), LOST);
        Desk.due("fault 0", x.fault(), 0);
        x.sheet(1, 1, 2);
        x.put(1, 1, -5);
        Desk.due("CAST ahead of INDEX", x.cell(1, 2, 0), LOST);
        Desk.due("fault CAST", x.fault(), 2);
        Desk.due("LANE 3", x.cell(1, 0, 3), LOST);
        Desk.due("fault 0", x.fault(), 0);
        Desk.due("i 2", x.cell(1, 2, 1), LOST);
        Desk.due("fault INDEX", x.fault(), 3);
        Desk.due("LANE -1", x.cell(1, 0, -1), LOST);
        Desk.due("fault 0", x.fault(), 0);
        Desk.due("i -1", x.cell(1, -1, 1), LOST);
        Desk.due("fault INDEX", x.fault(), 3);
        Desk.due("cell", x.cell(1, 1, 1), -5);
        Desk.due("fault 0", x.fault(), 0);
    }

    private static void row(SandKeepers x, int k, int lane, long... due) {
        for (int i = 0; i < due.length; i++) {
            Desk.due("SHEET " + k + " cell " + i, x.cell(k, i, lane), due[i]);
        }
        Desk.due("its end", x.cell(k, due.length, lane), LOST);
    }

    private static void copy() {
        SandKeepers x = new SandKeepers();
        Desk.write(x, 0, 1, 1, 2, 3, 4, 5);
        Desk.write(x, 1, 1, 9, 9, 9);
        Desk.write(x, 2, 2, 9);
        Desk.due("copy", x.copy(0, 1, 1, 0, 2), 2);
        row(x, 1, 1, 2, 3, 9);
        row(x, 0, 1, 1, 2, 3, 4, 5);
        Desk.due("the same, on", x.copy(0, 0, 0, 1, 4), 4);
        row(x, 0, 1, 1, 1, 2, 3, 4);
        Desk.due("the same, back", x.copy(0, 2, 0, 0, 3), 3);
        Desk.due("fault 0", x.fault(), 0);
        row(x, 0, 1, 2, 3, 4, 3, 4);
        Desk.due("copy of -1", x.copy(-1, 0, 0, 0, 0), -1);
        Desk.due("copy of 4", x.copy(4, 0, 0, 0, 0), -1);
        Desk.due("copy to -1", x.copy(0, 0, -1, 0, 0), -1);
        Desk.due("UNKNOWN ahead of NULL", x.copy(3, 0, 4, 0, 0), -1);
        Desk.due("NULL", x.copy(3, 0, 0, 0, 0), -11);
        Desk.due("NULL, the other", x.copy(0, -1, 3, 0, 0), -11);
        Desk.due("fault NULL", x.fault(), 1);
        Desk.due("CAST ahead of INDEX", x.copy(0, -1, 2, 9, -1), -12);
        Desk.due("fault CAST", x.fault(), 2);
        Desk.due("i -1", x.copy(0, -1, 1, 0, 0), -13);
        Desk.due("fault INDEX", x.fault(), 3);
        Desk.due("j -1", x.copy(0, 0, 1, -1, 0), -13);
        Desk.due("n -1", x.copy(0, 0, 1, 0, -1), -13);
        Desk.due("i at the end", x.copy(0, 5, 1, 3, 0), 0);
        Desk.due("i beyond", x.copy(0, 6, 1, 0, 0), -13);
        Desk.due("j beyond", x.copy(0, 0, 1, 4, 0), -13);
        Desk.due("n beyond", x.copy(0, 4, 1, 0, 2), -13);
        Desk.due("n beyond the other", x.copy(0, 0, 1, 1, 3), -13);
        Desk.due("n most", x.copy(0, 1, 1, 1, Integer.MAX_VALUE), -13);
        Desk.due("n least", x.copy(0, 1, 1, 1, Integer.MIN_VALUE), -13);
        Desk.due("i, j most", x.copy(0, Integer.MAX_VALUE, 1, Integer.MAX_VALUE, Integer.MAX_VALUE), -13);
        row(x, 0, 1, 2, 3, 4, 3, 4);
        row(x, 1, 1, 2, 3, 9);
    }

    private static int traceOf(int... bodies) {
        int trace = 0;
        for (int body : bodies) {
            trace = 31 * trace + body;
        }
        return trace;
    }

    private static void tell() {
        SandKeepers x = Desk.seen(THREE);
        Desk.due("tell PLAIN", x.tell(0), 1);
        Desk.due("TRACE", x.trace(), traceOf(1));
        Desk.due("tell WIDE", x.tell(1), 102);
        Desk.due("TRACE", x.trace(), traceOf(1, 2, 1));
        Desk.due("tell CRACKED", x.tell(2), 106);
        Desk.due("TRACE", x.trace(), traceOf(1, 2, 1, 3, 2, 1, 1));
        Desk.due("tell 3", x.tell(3), -1);
        Desk.due("tell -1", x.tell(-1), -1);
        Desk.due("TRACE still", x.trace(), traceOf(1, 2, 1, 3, 2, 1, 1));
        x.chafe(2, 9);
        Desk.due("tell NECK 9", x.tell(2), 118);
    }

    private static void dust() {
        SandKeepers x = Desk.seen(THREE);
        Desk.due("dust PLAIN", x.dust(0), 0);
        Desk.due("TRACE", x.trace(), traceOf(4));
        Desk.due("dust WIDE", x.dust(1), 1);
        Desk.due("TRACE", x.trace(), traceOf(4, 4));
        Desk.due("dust CRACKED", x.dust(2), 50);
        Desk.due("TRACE", x.trace(), traceOf(4, 4, 5));
        Desk.due("dust 3", x.dust(3), -1);
        Desk.due("dust -1", x.dust(-1), -1);
        Desk.due("TRACE still", x.trace(), traceOf(4, 4, 5));
    }

    private static void as() {
        SandKeepers x = Desk.seen(THREE);
        for (int k = 0; k < 3; k++) {
            for (int kind = 0; kind < 3; kind++) {
                Desk.due("as " + k + " " + kind, x.as(k, kind), kind <= k ? 1 : -12);
                Desk.due("fault", x.fault(), kind <= k ? 0 : 2);
            }
        }
        x.as(0, 2);
        Desk.due("kind -1", x.as(0, -1), -2);
        Desk.due("fault 0", x.fault(), 0);
        Desk.due("kind 3", x.as(2, 3), -2);
        x.as(0, 2);
        Desk.due("as 3", x.as(3, 3), -1);
        Desk.due("fault 0", x.fault(), 0);
        Desk.due("as -1", x.as(-1, 0), -1);
        Desk.due("no TRACE", x.trace(), 0);
    }

    private static void traceWraps() {
        SandKeepers x = Desk.seen(THREE);
        int[] bodies = new int[80];
        for (int i = 0; i < 20; i++) {
            x.tell(2);
            bodies[4 * i] = 3;
            bodies[4 * i + 1] = 2;
            bodies[4 * i + 2] = 1;
            bodies[4 * i + 3] = 1;
        }
        Desk.due("TRACE wraps", x.trace(), traceOf(bodies));
        Desk.due("TRACE is only told", x.trace(), traceOf(bodies));
    }

    /** Calls that name FAULTS set it, if they come to none 0, too; others leave it. */
    private static void faultOfTheLatest() {
        SandKeepers x = Desk.seen(THREE);
        Desk.write(x, 0, 0, 1, 2);
        x.lose(1);
        for (int call = 0; call < 8; call++) {
            x.put(1, 0, 0);
            Desk.due("fault NULL", x.fault(), 1);
            naming(x, call);
            Desk.due("fault of call " + call, x.fault(), 0);
        }
        x.put(1, 0, 0);
        notNaming(x);
        Desk.due("fault by others", x.fault(), 1);
    }

    private static void naming(SandKeepers x, int call) {
        switch (call) {
            case 0: x.see(0, 0, 0, 2); break;
            case 1: x.chronicle(0, 0, 0, 0, 0); break;
            case 2: x.found(0, 0, 0, 2); break;
            case 3: x.sheet(2, 0, 2); break;
            case 4: x.put(0, 0, 2); break;
            case 5: x.cell(0, 0, 0); break;
            case 6: x.copy(0, 0, 0, 0, 0); break;
            default: x.as(0, 0); break;
        }
    }

    private static void notNaming(SandKeepers x) {
        x.ofGlass(0, 0);
        x.keeps(0);
        x.chafe(0, 1);
        x.warm(0, 1);
        x.give(0, 1);
        x.alive(0);
        x.lay(0);
        x.raise(0);
        x.turn(0);
        x.go(1);
        x.life(0);
        x.ring(0);
        x.reach(0, 0);
        x.keeping(0);
        x.trade(0);
        x.first(0);
        x.reading(0, 0, 0);
        x.back(0);
        x.necks(0);
        x.kinds(0);
        x.keepers(0);
        x.odds(0, 0, 0);
        x.lose(3);
        x.tell(0);
        x.dust(0);
        x.trace();
        x.many(0);
    }

    private static void many() {
        SandKeepers x = Desk.seen(THREE);
        x.reading(0, 0, 0);
        x.reading(0, 0, 0);
        x.turn(0);
        x.go(5);
        Desk.due("HOUSES", x.many(0), 3);
        Desk.due("ALIVE", x.many(1), 2);
        Desk.due("YEAR", x.many(2), 5);
        Desk.due("READINGS", x.many(3), 2);
        Desk.due("many 4", x.many(4), -2);
        Desk.due("many -1", x.many(-1), -2);
    }
}
