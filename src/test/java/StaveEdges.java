/** The edges that the document names of promises 1 to 9: staves and woods. */
public final class StaveEdges extends Edges {
    private static final String DIGITS = "0123456789";
    private static final int MOST_BYTES = 60;

    public static void main(String[] args) throws Exception {
        new StaveEdges().run(1, 9);
    }

    // ---- promise 1

    @Says(promise = 1, value = "`BowBend()`: A STAVE of two PLACES.")
    private void twoPlaces() {
        due("places of a limb", newBow().count(1), 1);
        due("the first limb's", newBow().about(0, 0), 5);
        due("the second limb's", newBow().about(10, 0), 5);
        refused(Edges::newBow, "about", (x, v) -> x.about(v, 0), UNKNOWN, -1, 1, 2, 9, 11, 20);
    }

    @Says(promise = 1, value = "At first each LIMB has one PLACE, 5 wide, 20 deep, of WOOD 0.")
    private void placesAtFirst() {
        int[] first = {5, 20, 0, 0, 0, 0};
        for (int what = 0; what < first.length; what++) {
            due("about 0, " + what, newBow().about(0, what), first[what]);
            due("about 10, " + what, newBow().about(10, what), first[what]);
        }
    }

    @Says(promise = 1, value = "5, 60, 40 at first; 7, 80, 50; 3, 40, 20")
    private void woodsAtFirst() {
        int[] first = {5, 60, 40, 7, 80, 50, 3, 40, 20};
        for (int i = 0; i < first.length; i++) {
            due("grown " + i / 3 + ", " + i % 3, newBow().grown(i / 3, i % 3), first[i]);
        }
    }

    @Says(promise = 1, value = "At a KNOT (none at first)")
    private void noKnotsAtFirst() {
        due("knots", newBow().count(2), 0);
        due("knot at 0 is not otherwise", newBow().knot(0, false), 0);
        due("knot at 10 is not otherwise", newBow().knot(10, false), 0);
    }

    @Says(promise = 1, value = "0 at first, and when THE STAVE is made anew")
    private void nothingSeenAtFirst() {
        due("all that is seen", newBow().count(4), 0);
        due("too stiff", newBow().tooStiff(), NONE);
    }

    @Says(promise = 1, value = "THE TEXT is bytes (60 at most).")
    private void emptyAtFirst() {
        due("bytes", newBow().count(0), 0);
        due("fault", newBow().fault(), 0);
        due("sets", newBow().count(3), 0);
        due("broken", newBow().broken(), NONE);
    }

    @Says(promise = 1, value = "`BowBend()`")
    private void objectsAreApart() {
        BowBend x = newBow();
        BowBend y = newBow();
        String before = Check.stateOf(y);
        x.keep(0);
        x.wood(0, 1, 99, 1);
        x.knot(0, true);
        x.see(10, 9);
        x.draw(1);
        x.scrape(10, 9);
        Check.put(x, "5200/5200");
        due("the other is as it was", before.equals(Check.stateOf(y)) ? 1 : 0, 1);
        due("nothing is kept by it", y.again(0), LATE);
    }

    @Says(promise = 1, value = "UNKNOWN -1 (there is no such LIMB, PLACE, WOOD, SLOT), BAD -2, LATE -3, FULL -4.")
    private void constants() {
        due("UNKNOWN", BowBend.UNKNOWN, -1);
        due("BAD", BowBend.BAD, -2);
        due("LATE", BowBend.LATE, -3);
        due("FULL", BowBend.FULL, -4);
        due("NONE", BowBend.NONE, -9);
    }

    @Says(promise = 1, value = "An object is used for at most 512 calls after it has been made;")
    private void callsOfOneObject() {
        BowBend x = newBow();
        Check.put(x, alike(6, "5200"));
        x.stave();
        for (int call = 9; call < 512; call++) {
            due("places 0 and 10 scraped, 400 by 6 times 361", x.best(40, 0, 3), 184);
        }
        due("call 512", x.count(0), 49);
    }

    // ---- promise 2

    @Says(promise = 2, value = "n bytes (1 .. 8) of v")
    private void bytesAtOnce() {
        bounds(Edges::newBow, "write", (x, n) -> x.write(n, 0x3532303035323030L), 1, 1, 8, 8, BAD);
        for (int n = 1; n <= 8; n++) {
            due("write of " + n, newBow().write(n, 0), n);
        }
        refused(() -> textOf(52), "write", (x, n) -> x.write(n, 0), BAD, 0, 9, LOW, HIGH);
    }

    @Says(promise = 2, value = "the lowest n, the highest of these first, come behind THE TEXT")
    private void lowestBytes() {
        String signs = "5200/520";
        for (int n = 1; n <= 8; n++) {
            BowBend x = newBow();
            long above = n < 8 ? -1L << 8 * n : 0;
            x.write(n, above | bytesOf(signs.substring(0, n)));
            due("fault behind " + n, x.fault(), n);
        }
        BowBend y = newBow();
        y.write(1, '5');
        y.write(2, bytesOf("20"));
        due("behind what stands", y.fault(), 3);
    }

    @Says(promise = 2, value = "n bytes (1 .. 8) of v")
    private void farValues() {
        long[] values = {0, -1, Long.MIN_VALUE, Long.MAX_VALUE, Long.MIN_VALUE + '5', -256 + '5', 256 + '5', (1L << 32) + '5'};
        int[] faults = {0, 0, 0, 0, 1, 1, 1, 1};
        for (int i = 0; i < values.length; i++) {
            BowBend x = newBow();
            due("write 1 of " + values[i], x.write(1, values[i]), 1);
            due("fault of it", x.fault(), faults[i]);
        }
        BowBend y = newBow();
        due("a byte above 127 is none below", y.write(8, bytesOf("5200/520") | Long.MIN_VALUE), 8);
        due("fault", y.fault(), 0);
    }

    @Says(promise = 2, value = "FULL: it would be longer than 60 (nothing comes).")
    private void fullText() {
        for (int n = 1; n <= 8; n++) {
            due(n + " bytes to the last", textOf(MOST_BYTES - n).write(n, -1), MOST_BYTES);
            refused(() -> textOf(MOST_BYTES), "write behind 60", (x, v) -> x.write(v, -1), FULL, n);
            int before = MOST_BYTES + 1 - n;
            refused(() -> textOf(before), "write behind " + before, (x, v) -> x.write(v, -1), FULL, n);
        }
    }

    @Says(promise = 2, value = "FULL: it would be longer than 60 (nothing comes).")
    private void fullTextStaysAsItWas() {
        BowBend x = newBow();
        Check.put(x, alike(6, "5200"));
        due("behind the stave", x.write(8, 0), 57);
        still(x, "write", () -> x.write(4, bytesOf("5200")), FULL);
        due("fault", x.fault(), 49);
        due("what fits comes still", x.write(3, 0), 60);
        due("no more", x.write(1, 0), FULL);
        due("wipe", x.wipe(), 60);
        due("there is room again", x.write(8, bytesOf("5200/520")), 8);
        due("fault", x.fault(), 8);
    }

    @Says(promise = 2, value = "BAD; FULL")
    private void badBeforeFull() {
        refused(() -> textOf(MOST_BYTES), "write", (x, n) -> x.write(n, 0), BAD, 0, 9, LOW, HIGH);
        refused(() -> textOf(MOST_BYTES), "write", (x, n) -> x.write(n, 0), FULL, 1, 8);
    }

    private static long bytesOf(String signs) {
        long v = 0;
        for (char sign : signs.toCharArray()) {
            v = v << 8 | sign;
        }
        return v;
    }

    /** A new bow with so many bytes of a stave's text and what stands behind it. */
    private static BowBend textOf(int length) {
        BowBend x = newBow();
        Check.put(x, alike(6, "5200").concat("00000000000").substring(0, length));
        return x;
    }

    // ---- promise 3

    @Says(promise = 3, value = "THE TEXT is empty: how long it was.")
    private void wipeTells() {
        for (int length : new int[] {0, 1, 8, 49, 59, 60}) {
            BowBend x = textOf(length);
            due("wipe of " + length, x.wipe(), length);
            due("bytes", x.count(0), 0);
            due("wiped twice", x.wipe(), 0);
            due("fault", x.fault(), 0);
        }
    }

    @Says(promise = 3, value = "THE TEXT is empty")
    private void wipeLeavesNothing() {
        BowBend x = newBow();
        Check.put(x, "5200/5200");
        x.wipe();
        x.write(1, '5');
        due("what was behind it is gone", x.fault(), 1);
        x.wipe();
        Check.put(x, "0".repeat(MOST_BYTES));
        due("there is room for 60 again", x.count(0), MOST_BYTES);
        due("no more", x.write(1, 0), FULL);
    }

    // ---- promise 4

    /** Of all bytes that can come behind a text without a fault those, and no others, that leave it so. */
    private void nextBytes(String text, String fit) {
        for (char sign = 0; sign < 256; sign++) {
            boolean fits = fit.indexOf(sign) >= 0;
            int got = Check.faultOf(text + sign);
            if (fits) {
                due(text + " and byte " + (int) sign + " fits", got == NONE || got == text.length() + 1 ? 1 : 0, 1);
            } else {
                due("fault of " + text + " and byte " + (int) sign, got, text.length());
            }
        }
    }

    @Says(promise = 4, value = "width (1 .. 9)")
    private void widths() {
        nextBytes("", "123456789");
        nextBytes("5200/", "123456789");
        nextBytes("52005200/5200", "123456789");
    }

    @Says(promise = 4, value = "depth (two figures, 04 .. 40)")
    private void depths() {
        for (String before : new String[] {"1", "9", "52009", "5200/5"}) {
            nextBytes(before, "01234");
            nextBytes(before + "0", "456789");
            nextBytes(before + "1", DIGITS);
            nextBytes(before + "2", DIGITS);
            nextBytes(before + "3", DIGITS);
            nextBytes(before + "4", "0");
        }
    }

    @Says(promise = 4, value = "WOOD (0 .. 2)")
    private void woodsOfPlaces() {
        for (String before : new String[] {"104", "940", "5200520", "5200/520"}) {
            nextBytes(before, "012");
        }
    }

    @Says(promise = 4, value = "each of n PLACES (1 .. 6, as many in both), from the tip on")
    private void lengthsOfLimbs() {
        for (int n = 1; n <= 5; n++) {
            nextBytes("5200".repeat(n), "123456789/");
        }
        nextBytes("5200".repeat(6), "/");
        for (int n = 1; n <= 6; n++) {
            for (int second = 1; second < n; second++) {
                nextBytes("5200".repeat(n) + "/" + "5200".repeat(second), "123456789");
            }
            nextBytes(alike(n, "5200"), "");
        }
    }

    @Says(promise = 4, value = "its length, if it is only not at its end; NONE: none.")
    private void notAtItsEnd() {
        for (int n = 1; n <= 6; n++) {
            String whole = alike(n, "5200");
            for (int length = 0; length < whole.length(); length++) {
                due("fault of " + length + " bytes of " + whole, Check.faultOf(whole.substring(0, length)), length);
            }
            due("fault of " + whole, Check.faultOf(whole), NONE);
        }
    }

    @Says(promise = 4, value = "the place (from 0) of the first byte by which THE TEXT can be no STAVE, whatever came behind it")
    private void firstByte() {
        String whole = alike(6, "5200");
        for (int at = 0; at < whole.length(); at++) {
            due("one fault at " + at, Check.faultOf(whole.substring(0, at) + ":" + whole.substring(at + 1)), at);
            due("one and all behind it", Check.faultOf(whole.substring(0, at) + ":".repeat(whole.length() - at)), at);
        }
        due("a depth that its second figure spoils", Check.faultOf("5410/5200"), 2);
        due("a limb that is longer than the other", Check.faultOf("5200/52005200"), 9);
        due("a limb that is shorter than the other, and a limb more", Check.faultOf("52005200/5200/5200"), 13);
    }

    @Says(promise = 4, value = "(its length set aside)")
    private void longTexts() {
        for (int n = 1; n <= 6; n++) {
            String whole = alike(n, "5200");
            due("fault", Check.faultOf(whole + "5".repeat(MOST_BYTES - whole.length())), whole.length());
        }
        due("places alone", Check.faultOf("5200".repeat(15)), 24);
    }

    // ---- promise 5

    private void staveRefused(String signs) {
        BowBend x = brokenBow();
        x.knot(10, true);
        x.see(0, 9);
        Check.put(x, signs);
        still(x, "stave of " + signs, x::stave, LATE);
    }

    @Says(promise = 5, value = "LATE: a FAULT.")
    private void staveWithFault() {
        String whole = alike(6, "5200");
        for (int length = 0; length < whole.length(); length++) {
            staveRefused(whole.substring(0, length));
        }
        staveRefused(whole + "5");
        staveRefused(whole + "5".repeat(11));
        staveRefused("5200/5200/");
        staveRefused("5200/52005200");
        staveRefused("52005200/5200");
        staveRefused("0200/5200");
        staveRefused("5030/5200");
        staveRefused("5200/5410");
        staveRefused("5200/5203");
    }

    @Says(promise = 5, value = "how many PLACES a LIMB has.")
    private void staveOfEachLength() {
        for (int n = 1; n <= 6; n++) {
            BowBend x = newBow();
            Check.put(x, alike(n, "5200"));
            due("stave", x.stave(), n);
            due("places", x.count(1), n);
        }
    }

    @Says(promise = 5, value = "four figures each: width (1 .. 9), depth (two figures, 04 .. 40), WOOD (0 .. 2).")
    private void staveOfLeastAndMost() {
        String[] fours = {"1040", "9402", "1402", "9040", "5091", "5101", "4391", "3192", "2200", "6300", "7041", "8402"};
        BowBend x = Check.bowOf(String.join("", fours).substring(0, 24) + "/" + String.join("", fours).substring(24));
        for (int i = 0; i < fours.length; i++) {
            int place = i / 6 * 10 + i % 6;
            due("width of " + place, x.about(place, 0), fours[i].charAt(0) - '0');
            due("depth of " + place, x.about(place, 1), Integer.parseInt(fours[i].substring(1, 3)));
            due("wood of " + place, x.about(place, 2), fours[i].charAt(3) - '0');
        }
    }

    @Says(promise = 5, value = "THE TEXT is THE STAVE (THE TEXT itself stays; no KNOTS, no SETS, not broken")
    private void staveAnew() {
        BowBend x = Check.bowOf(alike(6, "5200"));
        x.wood(0, 5, 99, 1);
        for (int i = 0; i < 12; i++) {
            x.knot(i / 6 * 10 + i % 6, true);
            x.see(i / 6 * 10 + i % 6, 99);
        }
        due("it breaks", x.draw(40) >= 100 ? 1 : 0, 1);
        due("stave", x.stave(), 6);
        due("the text stays", x.count(0), 49);
        due("knots", x.count(2), 0);
        due("seen", x.count(4), 0);
        due("broken", x.broken(), NONE);
        due("it takes sets", x.draw(1) > 0 && x.count(3) > 0 ? 1 : 0, 1);
        x.stave();
        due("sets", x.count(3), 0);
    }

    @Says(promise = 5, value = "no KNOTS, no SETS")
    private void shorterAndLongerAgain() {
        BowBend x = Check.bowOf(alike(2, "5200"));
        x.wood(0, 5, 99, 1);
        x.knot(1, true);
        x.see(11, 9);
        x.draw(1);
        x.wipe();
        Check.put(x, "5200/5200");
        due("shorter", x.stave(), 1);
        due("knots", x.count(2), 0);
        due("sets", x.count(3), 0);
        due("seen", x.count(4), 0);
        x.wipe();
        Check.put(x, alike(2, "5200"));
        due("longer", x.stave(), 2);
        due("knots", x.count(2), 0);
        due("sets", x.count(3), 0);
        due("seen", x.count(4), 0);
    }

    @Says(promise = 5, value = "WOODS, and what was kept, stay")
    private void woodsStay() {
        BowBend x = newBow();
        x.wood(0, 9, 99, 1);
        x.wood(2, 1, 1, 99);
        x.keep(0);
        Check.put(x, alike(3, "9402"));
        due("stave", x.stave(), 3);
        due("e", x.grown(0, 0), 9);
        due("press", x.grown(2, 2), 99);
        due("what was kept", x.again(0), 1);
        due("its depth", x.about(10, 1), 20);
        due("nothing else is", x.again(1), LATE);
    }

    // ---- promise 6

    @Says(promise = 6, value = "UNKNOWN; BAD: e, pull, press.")
    private void woodNumbers() {
        bounds(Edges::newBow, "wood", (x, v) -> x.wood(v, 1, 1, 1), 0, 5, 2, 3, UNKNOWN);
        due("wood of 1", newBow().wood(1, 1, 1, 1), 7);
    }

    @Says(promise = 6, value = "WOODS have e (1 .. 9)")
    private void woodE() {
        bounds(Edges::newBow, "e", (x, v) -> x.wood(0, v, 1, 1), 1, 5, 9, 5, BAD);
        bounds(Edges::newBow, "e then", (x, v) -> x.wood(0, v, 1, 1) == BAD ? BAD : x.grown(0, 0), 1, 1, 9, 9, BAD);
    }

    @Says(promise = 6, value = "a PULL and a PRESS line (1 .. 99 each)")
    private void woodLines() {
        bounds(Edges::newBow, "pull", (x, v) -> x.wood(1, 1, v, 1), 1, 7, 99, 7, BAD);
        bounds(Edges::newBow, "pull then", (x, v) -> x.wood(1, 1, v, 50) == BAD ? BAD : x.grown(1, 1), 1, 1, 99, 99, BAD);
        bounds(Edges::newBow, "press", (x, v) -> x.wood(2, 1, 1, v), 1, 3, 99, 3, BAD);
        bounds(Edges::newBow, "press then", (x, v) -> x.wood(2, 1, 50, v) == BAD ? BAD : x.grown(2, 2), 1, 1, 99, 99, BAD);
    }

    @Says(promise = 6, value = "UNKNOWN; BAD: e, pull, press.")
    private void woodUnknownFirst() {
        refused(Edges::newBow, "wood", (x, v) -> x.wood(v, 0, 1, 1), UNKNOWN, -1, 3, LOW, HIGH);
        refused(Edges::newBow, "wood", (x, v) -> x.wood(v, 1, 100, 1), UNKNOWN, -1, 3, LOW, HIGH);
        refused(Edges::newBow, "wood", (x, v) -> x.wood(v, 1, 1, 0), UNKNOWN, -1, 3, LOW, HIGH);
    }

    @Says(promise = 6, value = "A WOOD is otherwise: its e that was.")
    private void oneWoodAlone() {
        BowBend x = newBow();
        due("was", x.wood(1, 9, 98, 97), 7);
        due("was", x.wood(1, 8, 1, 2), 9);
        int[] then = {5, 60, 40, 8, 1, 2, 3, 40, 20};
        for (int i = 0; i < then.length; i++) {
            due("grown " + i / 3 + ", " + i % 3, x.grown(i / 3, i % 3), then[i]);
        }
    }

    // ---- promise 7

    @Says(promise = 7, value = "UNKNOWN; BAD.")
    private void grownBounds() {
        bounds(Edges::newBow, "wood", (x, v) -> x.grown(v, 1), 0, 60, 2, 40, UNKNOWN);
        refused(Edges::newBow, "wood", (x, v) -> x.grown(v, 3), UNKNOWN, -1, 3, LOW, HIGH);
    }

    @Says(promise = 7, value = "Of a WOOD e (what = 0), PULL (1), PRESS (2).")
    private void grownWhat() {
        bounds(Edges::newBow, "what", (x, v) -> x.grown(1, v), 0, 7, 2, 50, BAD);
    }

    // ---- promise 8

    @Says(promise = 8, value = "UNKNOWN.")
    private void knotPlaces() {
        places("knot", (x, v) -> x.knot(v, true));
        places("no knot", (x, v) -> x.knot(v, false));
    }

    @Says(promise = 8, value = "A KNOT is at a PLACE, or not: 1 if that is otherwise than it was, 0.")
    private void knotOtherwise() {
        BowBend x = Check.bowOf(alike(6, "5200"));
        int[] answers = {0, 1, 0, 1, 0};
        boolean[] is = {false, true, true, false, false};
        for (int place : new int[] {0, 5, 10, 15}) {
            for (int i = 0; i < is.length; i++) {
                due("knot " + place + ", " + is[i], x.knot(place, is[i]), answers[i]);
                due("about", x.about(place, 4), is[i] ? 1 : 0);
                due("knots", x.count(2), is[i] ? 1 : 0);
            }
        }
    }

    @Says(promise = 8, value = "A KNOT is at a PLACE, or not")
    private void knotsOfBrokenOne() {
        BowBend x = brokenBow();
        due("knot", x.knot(10, true), 1);
        due("broken", x.broken(), 0);
        due("knots", x.count(2), 1);
    }

    // ---- promise 9

    @Says(promise = 9, value = "UNKNOWN; BAD.")
    private void aboutPlaces() {
        places("about", (x, v) -> x.about(v, 0));
        places("what is seen", (x, v) -> x.about(v, 5));
        refused(Edges::newBow, "about", (x, v) -> x.about(v, 6), UNKNOWN, -1, 1, 9, 11, LOW, HIGH);
        refused(Edges::newBow, "about", (x, v) -> x.about(v, -1), UNKNOWN, -1, 1, 9, 11, LOW, HIGH);
    }

    @Says(promise = 9, value = "Of a PLACE width (what = 0), depth (1), WOOD (2), SET (3), 1 at a KNOT (4), what is SEEN (5).")
    private void aboutWhat() {
        bounds(StaveEdges::fullBow, "what", (x, v) -> x.about(10, v), 0, 5, 5, 99, BAD);
        int[] about = {5, 10, 2, 9, 1, 99};
        for (int what = 0; what < about.length; what++) {
            due("about 10, " + what, fullBow().about(10, what), about[what]);
        }
    }

    /** Of wood 2 each inch is a strain of 10000. */
    private static BowBend fullBow() {
        BowBend x = Check.bowOf("5102/5102");
        x.wood(2, 5, 99, 1);
        x.draw(1);
        x.knot(10, true);
        x.see(10, 99);
        return x;
    }
}
