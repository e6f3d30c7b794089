/** Promises 24 to 26: sheet, drop, item. */
public final class SheetTest {
    private static final int[] NO_SHEET = {-1, 4, Integer.MIN_VALUE, Integer.MAX_VALUE};
    private static final int[] NO_LANE = {-1, 3, Integer.MIN_VALUE, Integer.MAX_VALUE};

    public static void main(String[] args) {
        sheet();
        newRow();
        drop();
        item();
        Due.end();
    }

    private static void sheet() {
        RecordBox box = new RecordBox();
        for (int sheet = 0; sheet < 4; sheet++) {
            for (int lane = 0; lane < 3; lane++) {
                for (int n : new int[] {0, 1, 24}) {
                    Due.is("24 n", box.sheet(sheet, lane, n), n);
                    Due.is("25 n", box.drop(sheet), n);
                }
                Due.is("24 above 24", box.sheet(sheet, lane, 25), Due.BAD);
                Due.is("24 above 24", box.sheet(sheet, lane, Integer.MAX_VALUE), Due.BAD);
                Due.is("24 below 0", box.sheet(sheet, lane, -1), Due.SIZE);
                Due.is("24 below 0", box.sheet(sheet, lane, Integer.MIN_VALUE), Due.SIZE);
            }
        }
        for (int wrong : NO_SHEET) {
            Due.is("24 sheet", box.sheet(wrong, 0, 1), Due.BAD);
            Due.is("24 sheet, ahead of SIZE", box.sheet(wrong, 0, -1), Due.BAD);
        }
        for (int wrong : NO_LANE) {
            Due.is("24 lane", box.sheet(0, wrong, 1), Due.BAD);
            Due.is("24 lane, ahead of SIZE", box.sheet(0, wrong, -1), Due.BAD);
        }
        Due.is("24 refused makes none", box.drop(0), Due.NULL);
        box.sheet(0, 1, 7);
        box.sheet(0, 1, -1);
        box.sheet(0, 1, 25);
        box.sheet(0, 3, 2);
        Due.is("24 refused: the old one stays", box.drop(0), 7);
    }

    private static void newRow() {
        RecordBox box = new RecordBox();
        box.sheet(0, 0, 2);
        box.item(0, 0, 0, 50);
        box.item(0, 0, 1, 50);
        box.sheet(0, 0, 2);
        Due.is("24 its items are 0", box.heard(0, 0, 0, 1, 50), Due.NOT);
        box.item(0, 0, 0, 50);
        box.sheet(0, 2, 24);
        Due.is("24 another lane", box.item(0, 0, 0, 1), Due.CAST);
        Due.is("24 its items are 0", box.heard(0, 2, 0, 1, 50), Due.NOT);
    }

    private static void drop() {
        RecordBox box = new RecordBox();
        for (int wrong : NO_SHEET) {
            Due.is("25 sheet", box.drop(wrong), Due.BAD);
        }
        Due.is("25 nothing", box.drop(3), Due.NULL);
        box.sheet(3, 1, 0);
        box.sheet(2, 1, 9);
        Due.is("25 none in it", box.drop(3), 0);
        Due.is("25 nothing now", box.drop(3), Due.NULL);
        Due.is("25 the other stays", box.drop(2), 9);
        box.sheet(1, 2, 1);
        box.item(1, 2, 0, 9);
        box.drop(1);
        Due.is("25 nothing to hear", box.heard(1, 2, 0, 1, 9), Due.NULL);
        box.sheet(1, 2, 1);
        Due.is("25 a new row is new", box.heard(1, 2, 0, 1, 9), Due.NOT);
    }

    private static void item() {
        RecordBox box = new RecordBox();
        box.sheet(1, 1, 3);
        for (int wrong : NO_SHEET) {
            Due.is("26 sheet", box.item(wrong, 1, 0, 1), Due.BAD);
        }
        for (int wrong : NO_LANE) {
            Due.is("26 lane, ahead of NULL", box.item(0, wrong, 0, 1), Due.BAD);
            Due.is("26 lane, ahead of INDEX", box.item(1, wrong, -1, 1), Due.BAD);
        }
        Due.is("26 nothing, ahead of INDEX", box.item(0, 1, -1, 1), Due.NULL);
        Due.is("26 another lane, ahead of INDEX", box.item(1, 0, 3, 1), Due.CAST);
        Due.is("26 another lane", box.item(1, 2, 0, 1), Due.CAST);
        for (int wrong : new int[] {-1, 3, 24, Integer.MIN_VALUE, Integer.MAX_VALUE}) {
            Due.is("26 i", box.item(1, 1, wrong, 1), Due.INDEX);
        }
        for (int i = 0; i < 3; i++) {
            Due.is("26 becomes", box.item(1, 1, i, Integer.MIN_VALUE + 5 + i), 1);
        }
        Due.is("26 the lowest bits", box.heard(1, 1, 0, 3, 7), 4);
        Due.is("26 the lowest bits", box.heard(1, 1, 1, 2, 7), 2);
        box.sheet(2, 0, 0);
        Due.is("26 a row of nothing", box.item(2, 0, 0, 1), Due.INDEX);
    }
}
