/** The edges of images: promises 22 and 23. */
public final class ImageEdgeTest {
    private static final String BUSY = Edge.rack(9, 7) + "set 0 0; set 1 1; prices 7 30 4; coin 29; key 4; key 4; key 18; change 4 -1; stick 2 2; stick 13 1; ticks 40; ";
    private static final String OTHERWISE = "set 0 1; set 1 50; prices 1 2 3; coin 7; record 3 3; stick 2 0; stick 13 0; stick 13 2; key 2; key 0; ticks 777; change 4 10; change 3 -1; ticks 33; ";

    public static void main(String[] args) {
        none();
        allIsAsItWas();
        theLastImageCounts();
        sheetsAndTapeStay();
        imagesOfEdges();
        Due.end();
    }

    private static void none() {
        Edge.holds("23 NONE: there is none", "restore = NONE; restore = NONE; image = 1; restore = 1");
        Edge.holds("23 NONE, whatever was done", BUSY + "sheet 0 0 3; tape '+5'; restore = NONE");
        Edge.sameBehind("22 an image changes nothing but the image", BUSY + "image; image", BUSY + "image");
    }

    private static void allIsAsItWas() {
        Edge.sameBehind("23 all is as it was then", BUSY + "image; " + OTHERWISE + "restore", BUSY + "image");
        Edge.sameBehind("23 all is as it was then: nothing yet", "image; " + BUSY + OTHERWISE + "restore", "image");
        Edge.sameBehind("23 at once", BUSY + "image; restore", BUSY + "image");
        Edge.sameBehind("23 a second time", BUSY + "image; " + OTHERWISE + "restore; " + OTHERWISE + "restore; restore", BUSY + "image");
        Edge.holds("22 1; 23 1", BUSY + "image = 1; image = 1; restore = 1; " + OTHERWISE + "restore = 1; restore = 1");
    }

    private static void theLastImageCounts() {
        Edge.sameBehind("22 a later image instead", "image; " + BUSY + "image; " + OTHERWISE + "restore", BUSY + "image");
        Edge.sameBehind("22 an image of what was restored", BUSY + "image; " + OTHERWISE + "restore; image; " + OTHERWISE + "restore", BUSY + "image");
        Edge.sameBehind("22 what comes behind an image is not in it", BUSY + "image; coin 50; restore", BUSY + "image");
    }

    private static void sheetsAndTapeStay() {
        String before = "sheet 0 0 2; item 0 0 0 60; sheet 1 2 3; tape '+5'; ";
        String since = "item 0 0 0 5; item 0 0 1 61; drop 1; sheet 2 1 24; tape ' t7'; ";
        Edge.sameBehind("22 all but SHEETS, THE TAPE", before + "image; " + since + "restore", before + "image; " + since);
        Edge.holds("23 the tape stays as it is now", before + "image; " + since + "restore = 1; type 32 1 = 6; evening = 2; count 4 = 5; count 7 = 7; restore = 1; count 4 = 0; count 7 = 0; "
            + "evening = -20; heard 0 0 0 1 50 = NONE; heard 0 0 1 1 61 = 0; drop 1 = NULL; drop 2 = 24");
    }

    private static void imagesOfEdges() {
        Edge.holds("23 a full box, then an empty one", "image; record 1 1 x 16; record 1 1 = FULL; restore = 1; count 0 = 0; told 0 0 = BAD; record 2 2 = 0; told 0 0 = 2; told 1 0 = BAD");
        Edge.holds("23 a RECORD that is OUT is OUT again", "record 5 5; change 0 0; coin 10; key 0; ticks 1; image; ticks 100; change 0 -1 = 0; restore = 1; told 0 4 = 0; change 0 -1 = NOT; ticks 12; "
            + "change 0 -1 = NOT; ticks 1; change 0 -1 = 0");
        Edge.holds("23 the METER and the WEAR", "record 1 1; change 0 0; stick 0 1; ticks 2000 x 3; ticks 571; song 0 2 = 99; told 0 2 = 99; image; ticks 67; song 0 2 = 0; restore; song 0 2 = 99; "
            + "ticks 67; song 0 2 = 0; told 0 2 = 99");
        Edge.holds("23 prices and their S", "prices 20 50 4; coin 45 = 2; image; coin 5 = 4; prices 1 1 1; restore; count 2 = 2; count 4 = 45; coin 4 = 2; coin 1 = 4");
        Edge.holds("23 LOST, MISSES, and the COINS' sum", "image; coin 25; set 0 0; key 0; key 0; ticks 1; count 3 = 1; count 6 = 1; restore; count 3 = 0; count 6 = 0; count 4 = 0; set 0 1 = 1");
    }
}
