/** Terms: SCROLLING, FEEDING and BACKING. */
public final class ScrollingTest {
    private static final String[] FEEDINGS = {"\n", "\013", "\f", "\033D"};

    public static void main(String[] args) {
        Sentence.holds("SCROLLING UP: the rows of the region move up, that of top goes out, that of bottom becomes blank;",
            ScrollingTest::scrollingUp);
        Sentence.holds("DOWN the other way.", ScrollingTest::scrollingDown);
        Sentence.holds("FEEDING: in the row bottom the region is scrolled up once; in another one but 7 the row grows by 1.",
            ScrollingTest::feeding);
        Sentence.holds("BACKING: in the row top it is scrolled down once; in another one but 0 the row is 1 less.",
            ScrollingTest::backing);
        Sentence.holds("After both the cursor is not full.", ScrollingTest::afterBothTheCursorIsNotFull);
        Probe.finish();
    }

    private static void scrollingUp() {
        for (Spot spot : Spot.all()) {
            Probe probe = spot.filled("S", 3).seq("S").cursor(spot.row(), 3);
            probe.firstColumn(spot.movedUp(spot.top(), 1)).line(spot.bottom(), Probe.BLANK_LINE).cells(32, 0, 12);
        }
        Probe looks = new Probe("looks move along").seq("7m").fill().seq("m", "3H").pack("x").seq("2;4r", "S");
        looks.code(1, 0, 'x').look(1, 0, 0).look(1, 1, 4).look(2, 0, 4).look(0, 0, 4).look(4, 11, 4);
        new Probe("a pen does not colour what comes in").fill().seq("7;41m", "S").cells(32, 0, 12);
    }

    private static void scrollingDown() {
        for (Spot spot : Spot.all()) {
            Probe probe = spot.filled("T", 3).seq("T").cursor(spot.row(), 3);
            probe.firstColumn(spot.movedDown(spot.top(), 1)).line(spot.top(), Probe.BLANK_LINE).cells(32, 0, 12);
        }
        Probe looks = new Probe("looks move along").seq("7m").fill().seq("m", "3H").pack("x").seq("2;4r", "T");
        looks.code(3, 0, 'x').look(3, 0, 0).look(3, 1, 4).look(2, 0, 4).look(0, 0, 4).look(4, 11, 4);
        new Probe("a pen does not colour what comes in").fill().seq("7;41m", "T").cells(32, 0, 12);
    }

    private static void feeding() {
        for (Spot spot : Spot.all()) {
            boolean scrolls = spot.row() == spot.bottom();
            int row = scrolls || spot.row() == 7 ? spot.row() : spot.row() + 1;
            String rows = scrolls ? spot.movedUp(spot.top(), 1) : Probe.ALL_ROWS;
            for (String feeding : FEEDINGS) {
                spot.filled("feeding", 3).pack(feeding).cursor(row, 3).firstColumn(rows).state(0);
            }
        }
    }

    private static void backing() {
        for (Spot spot : Spot.all()) {
            boolean scrolls = spot.row() == spot.top();
            int row = scrolls || spot.row() == 0 ? spot.row() : spot.row() - 1;
            String rows = scrolls ? spot.movedDown(spot.top(), 1) : Probe.ALL_ROWS;
            spot.filled("backing", 3).esc("M").cursor(row, 3).firstColumn(rows).state(0);
        }
    }

    private static void afterBothTheCursorIsNotFull() {
        for (Spot spot : Spot.all()) {
            for (String feeding : FEEDINGS) {
                Probe probe = spot.blank("feeding if full", 11).pack("x").full(true).pack(feeding).full(false);
                Probe.same("still in column 11", probe.desk.column(), 11);
            }
            Probe probe = spot.blank("backing if full", 11).pack("x").full(true).esc("M").full(false);
            Probe.same("still in column 11", probe.desk.column(), 11);
        }
    }
}
