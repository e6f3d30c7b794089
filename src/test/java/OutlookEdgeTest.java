/** The edges of what would be: part 3 of the document, promises 14 to 17. */
public final class OutlookEdgeTest {
    private static final String NO_SONG = "-1 20 MIN MAX";

    public static void main(String[] args) {
        refused();
        noneAtAll();
        asManyAsThereAre();
        atMost64();
        stuckInWhereNothingIs();
        grippedOrPlayedNow();
        whenEdges();
        doneEdges();
        neverDone();
        betterRefused();
        soonerThanAsItIs();
        betterAtTheEnds();
        ofLikeOnes();
        pairsWithAnEmptyPlace();
        outIsNotChanged();
        bothPlacesAreAsked();
        allStaysAsItIs();
        Due.end();
    }

    private static String better(int lesser, int other, int by) {
        return "; better 0 = " + lesser + "; better 1 = " + other + "; better 2 = " + by + "; ";
    }

    private static void refused() {
        String asked = Edge.rack(5, 5) + "coin 25; key 0; key 19; ticks 2; ";
        Edge.holds("14 BAD: also above 63", asked + Edge.each("next #", "-1 64 65 MIN MAX", "BAD") + "next 0 = 0; next 1 = 19; next 2 = NONE; next 63 = NONE");
        Edge.holds("15 BAD", asked + Edge.each("when #", NO_SONG, "BAD") + "when 0 = 3; when 1 = NONE");
        Edge.holds("17 BAD", asked + Edge.each("better #", "-1 3 MIN MAX", "BAD"));
    }

    private static void noneAtAll() {
        Edge.holds("14 NONE: nothing is asked", Edge.rack(5, 5) + Edge.each("next #", "0 1 20 62 63", "NONE") + "next 64 = BAD");
        Edge.holds("15 NONE: nothing is asked", Edge.rack(5, 5) + Edge.each("when #", "0 1 9 18 19", "NONE") + "when 20 = BAD");
        Edge.holds("14 NONE: misses alone", "coin 99; key 0; key 5; key 19; next 0 = NONE; when 0 = NONE; when 5 = NONE; when 19 = NONE; done = 51");
    }

    /** Gripped now, and all twenty pins in: one song comes twice, the 21 songs are all there are. */
    private static void asManyAsThereAre() {
        StringBuilder asked = new StringBuilder(Edge.rack(1, 1)).append("coin 99; coin 99; key 0; ticks 1; ");
        for (int song = 0; song < 20; song++) {
            asked.append("key ").append(song).append("; ");
        }
        StringBuilder due = new StringBuilder("count 1 = 20; next 0 = 0; ");
        for (int place = 1; place < 10; place++) {
            due.append("next ").append(place).append(" = ").append(2 * place).append("; ");
        }
        for (int place = 9; place >= 0; place--) {
            due.append("next ").append(19 - place).append(" = ").append(2 * place + 1).append("; ");
        }
        due.append("next 20 = 0; next 21 = NONE; next 63 = NONE; next 64 = BAD; when 0 = 4; when 2 = 16; when 18 = 112; when 19 = 123; when 1 = 231; done = 247");
        Edge.holds("3 as many as there are", asked.toString() + due);
        Edge.holds("3 as many as there are, then none", asked + "ticks 246; carriage 2 = 5; next 0 = NONE; done = 1; ticks 1; carriage 2 = 0; done = 0; count 5 = 21");
    }

    private static void atMost64() {
        Edge.holds("3 at most 64 are told: one song for ever", "record 1 1; change 4 0; stick 9 1; next 0 = 9; next 1 = 9; next 62 = 9; next 63 = 9; next 64 = BAD; when 9 = 49");
        StringBuilder all = new StringBuilder(Edge.rack(60, 60));
        for (int song = 0; song < 20; song++) {
            all.append("stick ").append(song).append(" 1; ");
        }
        Edge.holds("3 at most 64 are told: all songs for ever", all + "next 0 = 0; next 9 = 18; next 10 = 19; next 19 = 1; next 20 = 0; next 39 = 1; next 40 = 0; next 59 = 1; "
            + "next 60 = 0; next 61 = 2; next 62 = 4; next 63 = 6; next 64 = BAD; when 0 = 5; when 1 = 1353; done = NOT");
        Edge.holds("3 a pin FREE among those STUCK IN comes once", Edge.rack(1, 1) + "stick 0 1; stick 19 1; coin 10; key 9; next 0 = 0; next 1 = 19; next 2 = 9; next 3 = 0; "
            + "next 4 = 19; next 5 = 0; next 62 = 19; next 63 = 0");
    }

    private static void stuckInWhereNothingIs() {
        Edge.holds("3 STUCK IN at an empty PLACE: no SONG ever", "record 1 1; change 0 0; stick 5 1; next 0 = NONE; when 5 = NONE; done = NOT; better 0 = NOT");
        Edge.holds("3 STUCK IN at an empty PLACE, and one SONG as late as can be", "record 60 60; change 0 0; stick 5 1; coin 25; key 0; ticks 5; carriage 2 = 4; key 0; "
            + "next 0 = 0; next 1 = NONE; when 0 = 126; done = NOT");
        Edge.holds("3 STUCK OUT does not come", Edge.rack(1, 1) + "stick 5 2; coin 10; key 7; next 0 = 7; next 1 = NONE; when 5 = NONE");
    }

    private static void grippedOrPlayedNow() {
        String asked = Edge.rack(5, 5) + "coin 25; key 0; key 2; ";
        Edge.holds("3 asked for, not gripped yet", asked + "next 0 = 0; next 1 = 2; next 2 = NONE; when 0 = 5; when 2 = 21; done = 30");
        Edge.holds("3 one that is GRIPPED now is the first", asked + "ticks 1; next 0 = 0; when 0 = 4; ticks 3; carriage 3 = 1; next 0 = 0; when 0 = 1; next 1 = 2; when 2 = 17");
        Edge.holds("3 one that is PLAYED now not", asked + "ticks 5; carriage 2 = 4; next 0 = 2; next 1 = NONE; when 0 = NONE; when 2 = 16; ticks 4; carriage 3 = 1; next 0 = 2; "
            + "when 0 = NONE; when 2 = 12");
        Edge.holds("3 nor one that is PUT BACK", asked + "ticks 10; carriage 2 = 5; next 0 = 2; when 0 = NONE; ticks 3; carriage 3 = 1; next 0 = 2; when 2 = 8; done = 17");
        Edge.holds("3 GRIPPED now, and asked again", asked + "ticks 1; key 0 = 0; next 0 = 0; next 1 = 2; next 2 = 0; next 3 = NONE; when 0 = 4");
    }

    private static void whenEdges() {
        Edge.holds("15 the first and the last SONG", "record 1 1 x 2; change 0 0; change 9 1; coin 99; key 0; key 1; key 18; key 19; when 0 = 5; when 18 = 41; when 19 = 52; "
            + "when 1 = 88; done = 93");
        Edge.holds("15 NONE: its PLACE is empty", "record 1 1; change 0 0; coin 25; key 0; key 3; when 0 = 5; when 3 = NONE");
        Edge.holds("15 with twice its TIME ahead", "record 10 10; change 0 0; record 1 1; change 1 1; set 1 1; coin 99; key 0; ticks 19; key 0; key 2; when 0 = 5; when 2 = 36; "
            + "done = 41");
    }

    private static void doneEdges() {
        Edge.holds("16 0: it RESTS, and no PIN is in", Edge.rack(5, 5) + "done = 0; stick 3 2; done = 0; coin 10; done = 0");
        Edge.holds("16 it RESTS, but a PIN is in", "coin 10; key 0; done = 1; ticks 1; done = 0");
        for (int[] due : new int[][] {{18, 28}, {19, 30}, {1, 57}, {17, 33}, {2, 4}}) {
            Edge.holds("16 a MISS by itself", "coin 10; key " + due[0] + "; done = " + due[1] + "; ticks " + (due[1] - 1) + "; done = 1; ticks 1; done = 0; carriage 2 = 0");
        }
        Edge.holds("16 no PIN is in, but it does not REST", "record 60 60; change 0 0; coin 10; key 0; ticks 1; count 1 = 0; done = 68; ticks 4; done = 64; ticks 60; done = 4; "
            + "ticks 3; done = 1; ticks 1; done = 0");
    }

    private static void neverDone() {
        for (int song = 0; song < 20; song++) {
            Edge.holds("16 NOT: a PIN is STUCK IN; 17 NOT", ("record 1 1; change 0 0; stick # 1; done = NOT; better 0 = NOT; better 1 = NOT; better 2 = NOT; better 3 = BAD; "
                + "better -1 = BAD; stick # 2; done = 0; better 0 = NONE").replace("#", "" + song));
        }
        Edge.holds("16 STUCK IN, then FREE", "stick 0 1; done = NOT; stick 0 0; done = 1; stick 0 1; ticks 1; done = NOT; stick 0 0; done = 58");
        Edge.holds("16 STUCK IN while it plays another", "record 5 5; change 0 0; coin 10; key 0; ticks 6; done = 8; stick 19 1; done = NOT; stick 19 2; done = 8");
    }

    private static void betterRefused() {
        Edge.holds("17 NONE: nothing is asked", Edge.rack(5, 5) + "better 0 = NONE; better 1 = NONE; better 2 = NONE");
        Edge.holds("17 BAD, then NOT, then NONE", Edge.rack(5, 5) + "stick 3 1" + Edge.each("better #", "-1 3 MIN MAX", "BAD") + Edge.each("better #", "0 1 2", "NOT")
            + "stick 3 0; stick 3 2" + Edge.each("better #", "-1 3 MIN MAX", "BAD") + Edge.each("better #", "0 1 2", "NONE"));
        Edge.holds("17 NONE: an empty rack", "coin 10; key 4; better 0 = NONE; better 1 = NONE; better 2 = NONE; done = 7");
    }

    private static void soonerThanAsItIs() {
        String asked = Edge.rack(20, 20) + "coin 99; key 8; ";
        Edge.holds("17 NONE: all are like", asked + "done = 41; better 0 = NONE; better 1 = NONE; better 2 = NONE");
        Edge.holds("17 one TICK sooner is sooner", asked + "record 19 60 = 10; change 7 10 = 7" + better(4, 7, 40) + "done = 41; told 10 4 = 7");
        Edge.holds("17 one TICK later is not", asked + "record 21 1 = 10; change 7 10 = 7; better 0 = NONE; better 1 = NONE; better 2 = NONE");
        Edge.holds("17 sooner by WEAR", Edge.rack(20, 20) + "set 1 1; coin 99; key 8; ticks 41; key 8; done = 49" + better(0, 4, 29));
    }

    private static void betterAtTheEnds() {
        Edge.holds("17 PLACES 0 and 1", Edge.rack(20, 20) + "record 5 20; change 1 10; coin 10; key 0" + better(0, 1, 14));
        Edge.holds("17 PLACES 8 and 9", Edge.rack(20, 20) + "record 5 20; change 9 10; coin 10; key 16" + better(8, 9, 38));
        Edge.holds("17 PLACES 0 and 9", Edge.rack(20, 20) + "record 20 5; change 0 10; coin 10; key 19" + better(0, 9, 43));
    }

    private static void ofLikeOnes() {
        String two = Edge.rack(20, 20) + "record 5 5 x 2; ";
        Edge.holds("17 of like ones the lesser PLACE least", two + "change 3 10; change 6 11; coin 10; key 16" + better(3, 8, 38));
        Edge.holds("17 the lesser PLACE least, though the other is greater", two + "change 3 10; change 6 11; coin 10; key 8" + better(3, 4, 26));
        Edge.holds("17 the lesser the same: then the other", two + "change 8 10; change 9 11; coin 10; key 14" + better(7, 8, 35));
        Edge.holds("17 the soonest, though its PLACES are greater", two + "change 0 10; record 4 4; change 9 12; coin 10; key 16" + better(8, 9, 37));
    }

    private static void pairsWithAnEmptyPlace() {
        Edge.holds("17 a MISS is sooner than the shortest", Edge.rack(20, 20) + "record 1 1; change 3 10; change 6 -1; coin 10; key 16" + better(6, 8, 25));
        Edge.holds("17 the PLACE asked for is empty: none is sooner", Edge.rack(20, 20) + "change 8 -1; coin 10; key 16; done = 25; better 0 = NONE");
        Edge.holds("17 one record alone", "record 20 20; change 0 0; coin 10; key 0" + better(0, 1, 1));
        Edge.holds("17 both PLACES are empty: nothing is other", "record 20 20; change 0 0; coin 10; key 4; done = 7; better 0 = NONE");
    }

    /** Place 0 has the shortest record; while that is out, the next shortest serves. */
    private static void outIsNotChanged() {
        String asked = Edge.rack(30, 30) + "record 5 5; record 20 20; change 0 10; change 2 11; coin 99; key 0; ticks 1; key 2; ";
        Edge.holds("17 neither has a RECORD that is OUT: GRIPS", asked + "carriage 2 = 3" + better(1, 2, 44));
        Edge.holds("17 neither has a RECORD that is OUT: PLAYS", asked + "ticks 4; carriage 2 = 4" + better(1, 2, 40));
        Edge.holds("17 neither has a RECORD that is OUT: PUTS BACK", asked + "ticks 12; carriage 2 = 5; carriage 3 = 1" + better(1, 2, 32));
        Edge.holds("17 back again: it MOVES", asked + "ticks 13; carriage 0 = 0; carriage 2 = 1" + better(0, 1, 16));
        Edge.holds("17 the PLACE asked for is OUT itself", Edge.rack(30, 30) + "record 5 5; change 9 10; coin 99; key 0; ticks 1; key 1; better 0 = NONE; better 1 = NONE; "
            + "better 2 = NONE; ticks 38; carriage 2 = 1" + better(0, 9, 69));
    }

    /** Two places are asked for, one side each; to change these round makes both shorter. */
    private static void bothPlacesAreAsked() {
        Edge.holds("17 both are asked for", Edge.rack(60, 60) + "record 40 10; record 10 40; change 0 10; change 1 11; coin 99; key 0; key 3; done = 150" + better(0, 1, 90));
    }

    private static void allStaysAsItIs() {
        String asked = Edge.rack(30, 20) + "record 5 5; change 3 10; set 1 1; coin 99; key 0; key 3; key 19; ticks 3; ";
        String seen = "next 0; next 63; when 3; when 19; done; better 0; better 1; better 2; ";
        Edge.sameBehind("3 all stays as it is", asked + seen + seen, asked);
        Edge.sameBehind("3 all stays as it is, a pin is STUCK IN", asked + "stick 5 1; " + seen, asked + "stick 5 1");
        for (String change : new String[] {"ticks 40", "change 9 -1", "change 3 -1", "stick 19 2", "stick 19 1", "key 12", "set 1 2"}) {
            Edge.sameBehind("3 what was seen is not kept: " + change, asked + seen + change, asked + change);
        }
        Edge.sameBehind("9 what was seen is not kept: the groove", asked + "ticks 2000; key 0; key 3; " + seen + "set 1 2", asked + "ticks 2000; key 0; key 3; set 1 2");
        Edge.sameBehind("3 what was seen is not kept, an image", "image; " + asked + seen + "restore", "image");
        Edge.sameBehind("3 what was seen is not kept, an evening", asked + seen + "tape 'b1t50g2'; evening", asked + "tape 'b1t50g2'; evening");
    }
}
