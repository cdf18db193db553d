/** Lays texts and rows on the sheets of an object. */
final class Town {
    static final int SHEET = 3;

    private Town() { }

    static void lay(OneNail x, int sheet, int lane, int... cells) {
        Check.due("sheet to lay cells on", x.sheet(sheet, lane, cells.length), 1);
        for (int i = 0; i < cells.length; i++) {
            Check.due("cell to lay", x.put(sheet, i, cells[i]), 1);
        }
    }

    static int[] codes(String text) {
        int[] codes = new int[text.length()];
        for (int i = 0; i < codes.length; i++) {
            codes[i] = text.charAt(i);
        }
        return codes;
    }

    /** What street answers to a text. */
    static int take(OneNail x, String text) {
        lay(x, SHEET, 0, codes(text));
        return x.street(SHEET, 0, 0, text.length());
    }

    static OneNail of(String text) {
        OneNail x = new OneNail();
        Check.due("things of " + text, take(x, text), (text.length() - 2) / 7);
        return x;
    }

    /** The state that calls tell, with nothing changed by asking. */
    static String state(OneNail x) {
        StringBuilder told = new StringBuilder();
        for (int what = 0; what < 4; what++) {
            told.append(x.many(what)).append(' ');
        }
        for (int thing = 0; thing < 6; thing++) {
            for (int what = 0; what < 6; what++) {
                told.append(x.ofThing(thing, what)).append(' ');
            }
        }
        return told.append(x.fits(-1)).append(' ').append(x.trace()).toString();
    }
}
