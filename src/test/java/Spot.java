import java.util.ArrayList;
import java.util.List;

/** A region and a row of the cursor. */
record Spot(int top, int bottom, int row) {
    /** Every row with every region that there is. */
    static List<Spot> all() {
        List<Spot> spots = new ArrayList<>();
        for (int top = 0; top < 7; top++) {
            for (int bottom = top + 1; bottom < 8; bottom++) {
                for (int row = 0; row < 8; row++) {
                    spots.add(new Spot(top, bottom, row));
                }
            }
        }
        return spots;
    }

    /** A blank page with this region, the cursor in this row. */
    Probe blank(String what, int column) {
        Probe probe = new Probe(what + " " + this).seq((top + 1) + ";" + (bottom + 1) + "r");
        return probe.seq((row + 1) + ";" + (column + 1) + "H");
    }

    /** The rows hold the letters a .. h, a row each. */
    Probe filled(String what, int column) {
        Probe probe = new Probe(what + " " + this).fill().seq((top + 1) + ";" + (bottom + 1) + "r");
        return probe.seq((row + 1) + ";" + (column + 1) + "H");
    }

    boolean isInRegion() {
        return row >= top && row <= bottom;
    }

    /** What is left of the letters a .. h once those from a row to bottom moved up. */
    String movedUp(int from, int times) {
        StringBuilder rows = new StringBuilder(Probe.ALL_ROWS);
        for (int i = 0; i < times; i++) {
            rows.deleteCharAt(from).insert(bottom, ' ');
        }
        return rows.toString();
    }

    String movedDown(int from, int times) {
        StringBuilder rows = new StringBuilder(Probe.ALL_ROWS);
        for (int i = 0; i < times; i++) {
            rows.deleteCharAt(bottom).insert(from, ' ');
        }
        return rows.toString();
    }
}
