/** Promises 22 and 23: image, restore. */
public final class ImageTest {
    public static void main(String[] args) {
        none();
        allIsAsItWas();
        pricesAndSum();
        sheetsAndTapeStay();
        Due.end();
    }

    private static void none() {
        RecordBox box = new RecordBox();
        box.record(1, 1);
        Due.is("23 none", box.restore(), Due.NONE);
        Due.is("23 refused changes nothing", box.count(0), 1);
    }

    private static RecordBox busy() {
        RecordBox box = Due.filled(9, 7);
        box.set(0, 0);
        box.set(1, 1);
        box.coin(99);
        box.key(4);
        box.key(4);
        box.key(9);
        box.key(18);
        box.change(4, -1);
        box.stick(2, 2);
        box.stick(13, 1);
        box.ticks(40);
        return box;
    }

    private static void disturb(RecordBox box) {
        box.set(0, 0);
        box.key(13);
        box.set(0, 1);
        box.set(1, 50);
        box.prices(1, 2, 3);
        box.coin(7);
        box.record(3, 3);
        box.stick(2, 0);
        box.stick(13, 0);
        box.stick(13, 2);
        box.key(2);
        box.key(0);
        box.ticks(777);
        box.change(4, 10);
        box.change(3, -1);
        box.ticks(33);
    }

    /** One object for each question: a state takes some 200 of its 512 calls. */
    private static void allIsAsItWas() {
        String before = Due.state(busy());
        RecordBox kept = busy();
        Due.is("22 image", kept.image(), 1);
        Due.same("22 an image changes nothing", Due.state(kept), before);
        Due.same("23 all is as it was", Due.state(restored()), before);
        Due.is("23 kindness", restored().set(0, 0), 0);
        Due.is("23 groove", restored().set(1, 1), 1);
        RecordBox box = restored();
        RecordBox other = busy();
        box.ticks(500);
        other.ticks(500);
        Due.same("23 and goes on as it would", Due.state(box), Due.state(other));
    }

    private static RecordBox restored() {
        RecordBox box = busy();
        box.image();
        disturb(box);
        Due.is("23 restore", box.restore(), 1);
        return box;
    }

    private static void pricesAndSum() {
        RecordBox box = new RecordBox();
        box.prices(20, 50, 4);
        box.coin(45);
        box.image();
        box.coin(5);
        box.prices(1, 1, 1);
        box.restore();
        Due.is("23 credits", box.count(2), 2);
        Due.is("23 in all", box.count(4), 45);
        Due.is("23 prices and sum", box.coin(5), 4);
        box.restore();
        Due.is("23 prices and sum", box.coin(4), 2);
    }

    private static void sheetsAndTapeStay() {
        RecordBox box = new RecordBox();
        box.sheet(0, 0, 1);
        box.item(0, 0, 0, 9);
        Due.typed(box, "+5");
        box.image();
        box.item(0, 0, 0, 5);
        box.sheet(1, 2, 3);
        Due.typed(box, "0");
        box.restore();
        Due.is("22 items stay", box.heard(0, 0, 0, 1, 9), Due.NONE);
        Due.is("22 sheets stay", box.drop(1), 3);
        Due.is("22 the tape stays", box.evening(), 1);
        Due.is("13 coins", box.count(4), 50);
    }
}
