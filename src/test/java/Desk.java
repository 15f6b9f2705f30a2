/** What the tests share: comparing answers, writing rows into SHEETS, seeing a TEXT. */
final class Desk {
    private static int wrong = 0;

    private Desk() {
    }

    static void due(String call, long got, long want) {
        if (got != want) {
            wrong++;
            System.out.println(call + " answered " + got + ", due is " + want);
        }
    }

    static void isTrue(String what, boolean holds) {
        due(what, holds ? 1 : 0, 1);
    }

    static void end() {
        System.out.println(wrong == 0 ? "all answers are as due" : wrong + " answers are not as due");
        if (wrong != 0) {
            System.exit(1);
        }
    }

    /** A SHEET gets just these cells. */
    static void write(SandKeepers x, int sheet, int lane, int... cells) {
        x.sheet(sheet, lane, cells.length);
        for (int i = 0; i < cells.length; i++) {
            x.put(sheet, i, cells[i]);
        }
    }

    static int[] codes(String text) {
        int[] codes = new int[text.length()];
        for (int i = 0; i < codes.length; i++) {
            codes[i] = text.charAt(i);
        }
        return codes;
    }

    /** What see answers of a TEXT that is written into SHEET 3 as bytes. */
    static int see(SandKeepers x, String text) {
        write(x, 3, 0, codes(text));
        return x.see(3, 0, 0, text.length());
    }

    static SandKeepers seen(String text) {
        SandKeepers x = new SandKeepers();
        int houses = see(x, text);
        due("see " + text, houses, text.charAt(1) - '0');
        return x;
    }

    /** What chronicle answers of pairs that are written into SHEET 2 as ints. */
    static int told(SandKeepers x, int what, int... pairs) {
        write(x, 2, 2, pairs);
        return x.chronicle(2, 2, 0, pairs.length / 2, what);
    }

    /** What found answers of numbers that are written into SHEET 2 as ints. */
    static int found(SandKeepers x, int... numbers) {
        write(x, 2, 2, numbers);
        return x.found(2, 2, 0, numbers.length);
    }
}
