/** Roads for the tests, and all that can be seen of one. */
final class Roads {
    /** The calls that picture() makes. */
    static final int PICTURE_CALLS = 3 * 16 * 4 + 2 * 16 * 2 + 15;

    private Roads() {
    }

    /** The ways, words, dashes, their strengths, and the totals. */
    static int[] picture(RoadPaint x) {
        int[] seen = new int[PICTURE_CALLS];
        int at = 0;
        for (int mile = 0; mile < 16; mile++) {
            for (int lane = 0; lane < 3; lane++) {
                for (int part = 0; part < 4; part++) {
                    seen[at++] = x.cell(lane, mile, part);
                }
            }
            for (int line = 0; line < 2; line++) {
                seen[at++] = x.line(line, mile, 0);
                seen[at++] = x.line(line, mile, 1);
            }
        }
        for (int what = 0; what < 15; what++) {
            seen[at++] = x.total(what);
        }
        return seen;
    }

    static int[] totals(RoadPaint x) {
        int[] totals = new int[15];
        for (int what = 0; what < totals.length; what++) {
            totals[what] = x.total(what);
        }
        return totals;
    }

    /** What a picture does not show: the buffer, the recorded states, and the saved one. */
    static int[] behindThePicture(RoadPaint x) {
        int[] seen = new int[4 + 6 * 16 + PICTURE_CALLS];
        int at = 0;
        seen[at++] = x.errorPosition();
        seen[at++] = x.append('d');
        seen[at++] = x.clearText();
        for (int i = 0; i < 6; i++) {
            seen[at++] = x.undo();
            for (int total : totals(x)) {
                seen[at++] = total;
            }
        }
        seen[at++] = x.restore();
        for (int part : picture(x)) {
            seen[at++] = part;
        }
        return seen;
    }

    /** Signs of all sorts and strengths, five different recorded states, a saved state, a text. */
    static RoadPaint busy() {
        RoadPaint x = new RoadPaint();
        x.traffic(0, 7);
        x.traffic(1, 12);
        x.traffic(2, 19);
        x.arrow(0, 3, 0);
        x.arrow(1, 3, 0);
        x.arrow(2, 12, 2);
        x.word(0, 0, 0);
        x.word(0, 3, 1);
        x.word(1, 9, 2);
        x.dash(0, 3, 1);
        x.dash(1, 15, 3);
        x.pass(3);
        x.night(0, 15);
        x.save();
        x.word(2, 15, 3);
        x.set(0, 45);
        x.set(1, 5);
        x.bring(3);
        x.pass(1);
        x.dash(0, 7, 2);
        x.arrow(2, 0, 1);
        Check.write(x, "d;w0a");
        return x;
    }

    /** A road whose cans have all been used, with four words left that are weaker than 60. */
    static RoadPaint withoutCans() {
        RoadPaint x = new RoadPaint();
        x.traffic(0, 20);
        x.traffic(1, 20);
        for (int mile = 0; mile < 12; mile++) {
            x.word(0, mile, 2);
            x.word(1, mile, 3);
        }
        x.set(1, 40);
        x.pass(3);
        x.night(0, 15);
        return x;
    }

    /** A road on which BUS stands at these miles of the lane 2 with the strength 40. */
    static RoadPaint faded(int... miles) {
        RoadPaint x = new RoadPaint();
        x.traffic(2, 20);
        for (int mile : miles) {
            x.word(2, mile, 2);
        }
        x.pass(3);
        return x;
    }

    /** A road on which one sign has this strength: BUS on the lane 1 at the mile 6. */
    static RoadPaint wordOfStrength(int strength) {
        RoadPaint x = new RoadPaint();
        x.word(1, 6, 2);
        x.traffic(1, 20);
        int loss = 100 - strength;
        for (int i = 0; i < loss / 20; i++) {
            x.pass(1);
        }
        x.traffic(1, loss % 20);
        x.pass(1);
        return x;
    }
}
